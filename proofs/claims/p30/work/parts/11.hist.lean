section
variable {l : Launch} {D : va_G} {tA : Nat → ClassId} {G : kCx} {cc : ByteArray} {nL : Nat} {own : String} {fr lo n k : Nat} {w : va_W} {lv : List (Nat × Value)} {pc : Nat} {st : List Value}
theorem j_aald (X : kX D tA G cc nL own fr lo) (q0 : Nat) {a N i v : Nat} {f : Nat → Option Nat} (he : w[q0]? = some (a, .inl (tA 2, N, .inr (.inr (.inr (.inr f)))))) (hi : i < N) (hN : N < 65536) (hv : f i = some v) (hdg : decode cc pc = .ok (.aaload, 1)) (kk : J l D G n k w lv (pc + 1) (.ref v :: st)) : J l D G n k w lv pc (.int (nI i) :: .ref a :: st) :=
  fun H locs ls hP hD hS hl => va_aldq (D := D) (cl := vwCl) (ws := w) (tys := kTY tA) X.1 X.2.1 X.2.2.2.2.2.1.1 hP q0 2 he rfl (vp_in_nI hi (by omega)) hdg (by rw [nI_clamp (by omega), hv]; exact kk H locs ls hP hD hS hl)
theorem j_cast (X : kX D tA G cc nL own fr lo) (q0 : Nat) {a N i v : Nat} {f : Nat → Nat} (he : w[q0]? = some (a, .inl (tA 1, N, .inl (nF f)))) (hi : i < N) (hN : N < 65536) (hv : v < 65536) {w' : va_W} (hw : w.set q0 (a, .inl (tA 1, N, .inl (nF (va_up f i v)))) = w') (hdg : decode cc pc = .ok (.castore, 1)) (kk : J l D G n k w' lv (pc + 1) st) : J l D G n k w lv pc (.int (nI v) :: .int (nI i) :: .ref a :: st) :=
  fun H locs ls hP hD hS hl => va_cast (D := D) (cl := vwCl) (ws := w) (tys := kTY tA) X.1 X.2.1 X.2.2.2.2.2.1.1 hP hD hS q0 1 he rfl (vp_in_nI hi (by omega)) hdg (fun H1 locs1 hP1 hD1 hS1 => by
    have e : vp_nar .char (nI v) = nI v := by unfold vp_nar; rw [(pk_charN hv).1]
    rw [nI_clamp (by omega), e, upd_nF, hw] at hP1 hD1
    exact kk H1 locs1 ls hP1 hD1 hS1 hl)
end
/-- the ring of the latest states -/
abbrev Hs : Type := (Nat → Sg) × Nat × Nat
def hsW (tA : Nat → ClassId) (h : Nat → Nat) (d : Nat → Nat → Nat) (v : Hs) : va_W :=
  [(h 0, .inr (0, [.ref (h 1), .int (nI v.2.1), .int (nI v.2.2)])), (h 1, .inl (tA 2, 4, .inr (.inr (.inr (.inr (fun i => some (d i 0)))))))] ++ (stW tA (d 0) (v.1 0) ++ (stW tA (d 1) (v.1 1) ++ (stW tA (d 2) (v.1 2) ++ stW tA (d 3) (v.1 3))))
theorem hs_fst {tA : Nat → ClassId} {h : Nat → Nat} {d : Nat → Nat → Nat} {v : Hs} : (hsW tA h d v).map Prod.fst = [h 0, h 1] ++ (stA (d 0) ++ (stA (d 1) ++ (stA (d 2) ++ stA (d 3)))) := by
  show (_ ++ _ : va_W).map Prod.fst = _
  rw [List.map_append, List.map_append, List.map_append, List.map_append, st_fst, st_fst, st_fst, st_fst]
  rfl
theorem hs_flat {tA : Nat → ClassId} {h : Nat → Nat} {d : Nat → Nat → Nat} {v : Hs} {a : Nat → Nat} {s : Sg} : hsW tA h d v ++ stW tA a s = [(h 0, .inr (0, [.ref (h 1), .int (nI v.2.1), .int (nI v.2.2)])), (h 1, .inl (tA 2, 4, .inr (.inr (.inr (.inr (fun i => some (d i 0)))))))] ++ (stW tA (d 0) (v.1 0) ++ (stW tA (d 1) (v.1 1) ++ (stW tA (d 2) (v.1 2) ++ (stW tA (d 3) (v.1 3) ++ stW tA a s)))) := by
  simp only [hsW, List.append_assoc]
def hPush (v : Hs) (s : Sg) : Hs := (va_up v.1 v.2.1 s, (v.2.1 + 1) % 4, min (v.2.2 + 1) 4)
def hLast (v : Hs) : Nat := (v.2.1 + 4 - 1) % 4
def hPop (v : Hs) : Hs := (v.1, hLast v, v.2.2 - 1)
theorem cd_X1_copyFrom : kCardV yX1_copyFrom cX1_copyFrom 2 none 1 := ⟨⟨wc_X1_copyFrom, wi_X1, by decide +kernel, by decide +kernel, rfl⟩, wk_X1_copyFrom, ws_X1_copyFrom⟩
set_option maxHeartbeats 4000000 in
set_option maxRecDepth 100000 in
theorem c_X1_copyFrom (l : Launch) (D : va_G) (tA : Nat → ClassId) (a : Nat → Nat) (s : Sg) (b : Nat → Nat) (s2 : Sg) (hw : Wf s) (hw2 : Wf s2) : Kx l D tA yX1_copyFrom cX1_copyFrom 2 none 2 39 [.ref (a 0), .ref (b 0)] (stW tA a s ++ (stW tA b s2)) none (stW tA a s2 ++ (stW tA b s2)) := by
  refine kx_void rfl (Nat.le_of_ble_eq_true rfl) (fun G X E => ?_)
  show J l D G 0 0 (stW tA a s ++ (stW tA b s2)) [(0, .ref (a 0)), (1, .ref (b 0))] 0 []
  have hn := hw.n
  have hn2 := hw2.n
  refine j_aload_n (pc := 0) X dX1_copyFrom_0 rfl (q := 0) rfl ?_
  refine j_get (pc := 1) X (C := RX1) (T := TX1) (N := 9) wz_X1 0 rfl rfl 0 (by decide) wf_X1_14 rfl dX1_copyFrom_1 ?_
  refine j_aload_n (pc := 4) X dX1_copyFrom_4 rfl (q := 1) rfl ?_
  refine j_get (pc := 5) X (C := RX1) (T := TX1) (N := 9) wz_X1 10 rfl rfl 0 (by decide) wf_X1_14 rfl dX1_copyFrom_5 ?_
  refine j_callV (pc := 8) X (st := []) (w' := (stW tA a (uM s (sM s2)) ++ (stW tA b s2))) (c_X2_copyFrom l D tA (a 1) (a 6) 5 3 (sM s) (b 1) (b 6) (sM s2) (by decide) (by decide) (by first | assumption | omega | decide) (by first | assumption | omega | decide)) cd_X2_copyFrom wm_X1_33 2 rfl rfl rfl [2, 3, 12, 13] rfl rfl (fst_app (tb_fst.trans tb_fst.symm) rfl) rfl ⟨Nat.le_of_ble_eq_true rfl, Nat.le_of_ble_eq_true rfl⟩ ⟨Nat.zero_le _, Nat.zero_le _⟩ rfl (Nat.le_of_ble_eq_true rfl) dX1_copyFrom_8 ?_
  refine j_aload_n (pc := 11) X dX1_copyFrom_11 rfl (q := 0) rfl ?_
  refine j_get (pc := 12) X (C := RX1) (T := TX1) (N := 9) wz_X1 0 rfl rfl 1 (by decide) wf_X1_20 rfl dX1_copyFrom_12 ?_
  refine j_aload_n (pc := 15) X dX1_copyFrom_15 rfl (q := 1) rfl ?_
  refine j_get (pc := 16) X (C := RX1) (T := TX1) (N := 9) wz_X1 10 rfl rfl 1 (by decide) wf_X1_20 rfl dX1_copyFrom_16 ?_
  refine j_callV (pc := 19) X (st := []) (w' := (stW tA a (uP (uM s (sM s2)) (sP s2)) ++ (stW tA b s2))) (c_X2_copyFrom l D tA (a 2) (a 7) 8 2 (sP s) (b 2) (b 7) (sP s2) (by decide) (by decide) (by first | assumption | omega | decide) (by first | assumption | omega | decide)) cd_X2_copyFrom wm_X1_33 4 rfl rfl rfl [4, 5, 14, 15] rfl rfl (fst_app (tb_fst.trans tb_fst.symm) rfl) rfl ⟨Nat.le_of_ble_eq_true rfl, Nat.le_of_ble_eq_true rfl⟩ ⟨Nat.zero_le _, Nat.zero_le _⟩ rfl (Nat.le_of_ble_eq_true rfl) dX1_copyFrom_19 ?_
  refine j_aload_n (pc := 22) X dX1_copyFrom_22 rfl (q := 0) rfl ?_
  refine j_get (pc := 23) X (C := RX1) (T := TX1) (N := 9) wz_X1 0 rfl rfl 2 (by decide) wf_X1_23 rfl dX1_copyFrom_23 ?_
  refine j_aload_n (pc := 26) X dX1_copyFrom_26 rfl (q := 1) rfl ?_
  refine j_get (pc := 27) X (C := RX1) (T := TX1) (N := 9) wz_X1 10 rfl rfl 2 (by decide) wf_X1_23 rfl dX1_copyFrom_27 ?_
  refine j_callV (pc := 30) X (st := []) (w' := (stW tA a (uB (uP (uM s (sM s2)) (sP s2)) (sB s2)) ++ (stW tA b s2))) (c_X2_copyFrom l D tA (a 3) (a 8) 30 8 (sB s) (b 3) (b 8) (sB s2) (by decide) (by decide) (by first | assumption | omega | decide) (by first | assumption | omega | decide)) cd_X2_copyFrom wm_X1_33 6 rfl rfl rfl [6, 7, 16, 17] rfl rfl (fst_app (tb_fst.trans tb_fst.symm) rfl) rfl ⟨Nat.le_of_ble_eq_true rfl, Nat.le_of_ble_eq_true rfl⟩ ⟨Nat.zero_le _, Nat.zero_le _⟩ rfl (Nat.le_of_ble_eq_true rfl) dX1_copyFrom_30 ?_
  refine j_aload_n (pc := 33) X dX1_copyFrom_33 rfl (q := 0) rfl ?_
  refine j_get (pc := 34) X (C := RX1) (T := TX1) (N := 9) wz_X1 0 rfl rfl 3 (by decide) wf_X1_26 rfl dX1_copyFrom_34 ?_
  refine j_aload_n (pc := 37) X dX1_copyFrom_37 rfl (q := 1) rfl ?_
  refine j_get (pc := 38) X (C := RX1) (T := TX1) (N := 9) wz_X1 10 rfl rfl 3 (by decide) wf_X1_26 rfl dX1_copyFrom_38 ?_
  refine j_callV (pc := 41) X (st := []) (w' := (stW tA a (uV (uB (uP (uM s (sM s2)) (sP s2)) (sB s2)) (sV s2)) ++ (stW tA b s2))) (c_X2_copyFrom l D tA (a 4) (a 9) 10 5 (sV s) (b 4) (b 9) (sV s2) (by decide) (by decide) (by first | assumption | omega | decide) (by first | assumption | omega | decide)) cd_X2_copyFrom wm_X1_33 8 rfl rfl rfl [8, 9, 18, 19] rfl rfl (fst_app (tb_fst.trans tb_fst.symm) rfl) rfl ⟨Nat.le_of_ble_eq_true rfl, Nat.le_of_ble_eq_true rfl⟩ ⟨Nat.zero_le _, Nat.zero_le _⟩ rfl (Nat.le_of_ble_eq_true rfl) dX1_copyFrom_41 ?_
  refine j_aload_n (pc := 44) X dX1_copyFrom_44 rfl (q := 1) rfl ?_
  refine j_get (pc := 45) X (C := RX1) (T := TX1) (N := 9) wz_X1 10 rfl rfl 4 (by decide) wf_X1_29 rfl dX1_copyFrom_45 ?_
  refine j_iconst (pc := 48) X (v := (nI 0)) dX1_copyFrom_48 (by decide) ?_
  refine j_aload_n (pc := 49) X dX1_copyFrom_49 rfl (q := 0) rfl ?_
  refine j_get (pc := 50) X (C := RX1) (T := TX1) (N := 9) wz_X1 0 rfl rfl 4 (by decide) wf_X1_29 rfl dX1_copyFrom_50 ?_
  refine j_iconst (pc := 53) X (v := (nI 0)) dX1_copyFrom_53 (by decide) ?_
  refine j_aload_n (pc := 54) X dX1_copyFrom_54 rfl (q := 1) rfl ?_
  refine j_get (pc := 55) X (C := RX1) (T := TX1) (N := 9) wz_X1 10 rfl rfl 4 (by decide) wf_X1_29 rfl dX1_copyFrom_55 ?_
  refine j_alen (pc := 58) X 11 0 rfl rfl dX1_copyFrom_58 ?_
  refine j_aload_n (pc := 59) X dX1_copyFrom_59 rfl (q := 0) rfl ?_
  refine j_get (pc := 60) X (C := RX1) (T := TX1) (N := 9) wz_X1 0 rfl rfl 4 (by decide) wf_X1_29 rfl dX1_copyFrom_60 ?_
  refine j_alen (pc := 63) X 1 0 rfl rfl dX1_copyFrom_63 ?_
  refine j_mmin (pc := 64) X wm_X1_37 (Nat.le_of_ble_eq_true rfl) (Nat.le_of_ble_eq_true rfl) ⟨Nat.zero_le _, Nat.zero_le _⟩ (v := (nI 200)) (by decide +kernel) dX1_copyFrom_64 ?_
  refine j_copy (pc := 67) X 11 1 rfl rfl (by omega) wm_X1_43 (Nat.le_of_ble_eq_true rfl) (Nat.le_of_ble_eq_true rfl) (w' := (stW tA a (uW (uV (uB (uP (uM s (sM s2)) (sP s2)) (sB s2)) (sV s2)) (sW s2)) ++ (stW tA b s2))) rfl dX1_copyFrom_67 ?_
  refine j_aload_n (pc := 70) X dX1_copyFrom_70 rfl (q := 0) rfl ?_
  refine j_aload_n (pc := 71) X dX1_copyFrom_71 rfl (q := 1) rfl ?_
  refine j_get (pc := 72) X (C := RX1) (T := TX1) (N := 9) wz_X1 10 rfl rfl 5 (by decide) wf_X1_49 rfl dX1_copyFrom_72 ?_
  refine j_put (pc := 75) X (C := RX1) (T := TX1) (N := 9) wz_X1 tyX1 tyX1_ok nmX1 0 rfl rfl 5 (by decide) wf_X1_49 rfl rfl rfl (Nat.le_of_ble_eq_true rfl) (w' := (stW tA a (uN (uW (uV (uB (uP (uM s (sM s2)) (sP s2)) (sB s2)) (sV s2)) (sW s2)) (sN s2)) ++ (stW tA b s2))) rfl dX1_copyFrom_75 ?_
  refine j_aload_n (pc := 78) X dX1_copyFrom_78 rfl (q := 0) rfl ?_
  refine j_aload_n (pc := 79) X dX1_copyFrom_79 rfl (q := 1) rfl ?_
  refine j_get (pc := 80) X (C := RX1) (T := TX1) (N := 9) wz_X1 10 rfl rfl 6 (by decide) wf_X1_53 rfl dX1_copyFrom_80 ?_
  refine j_put (pc := 83) X (C := RX1) (T := TX1) (N := 9) wz_X1 tyX1 tyX1_ok nmX1 0 rfl rfl 6 (by decide) wf_X1_53 rfl rfl rfl (Nat.le_of_ble_eq_true rfl) (w' := (stW tA a (uD (uN (uW (uV (uB (uP (uM s (sM s2)) (sP s2)) (sB s2)) (sV s2)) (sW s2)) (sN s2)) (sD s2)) ++ (stW tA b s2))) rfl dX1_copyFrom_83 ?_
  refine j_aload_n (pc := 86) X dX1_copyFrom_86 rfl (q := 0) rfl ?_
  refine j_aload_n (pc := 87) X dX1_copyFrom_87 rfl (q := 1) rfl ?_
  refine j_get (pc := 88) X (C := RX1) (T := TX1) (N := 9) wz_X1 10 rfl rfl 7 (by decide) wf_X1_56 rfl dX1_copyFrom_88 ?_
  refine j_put (pc := 91) X (C := RX1) (T := TX1) (N := 9) wz_X1 tyX1 tyX1_ok nmX1 0 rfl rfl 7 (by decide) wf_X1_56 rfl rfl rfl (Nat.le_of_ble_eq_true rfl) (w' := (stW tA a (uF (uD (uN (uW (uV (uB (uP (uM s (sM s2)) (sP s2)) (sB s2)) (sV s2)) (sW s2)) (sN s2)) (sD s2)) (sF s2)) ++ (stW tA b s2))) rfl dX1_copyFrom_91 ?_
  refine j_aload_n (pc := 94) X dX1_copyFrom_94 rfl (q := 0) rfl ?_
  refine j_aload_n (pc := 95) X dX1_copyFrom_95 rfl (q := 1) rfl ?_
  refine j_get (pc := 96) X (C := RX1) (T := TX1) (N := 9) wz_X1 10 rfl rfl 8 (by decide) wf_X1_59 rfl dX1_copyFrom_96 ?_
  refine j_put (pc := 99) X (C := RX1) (T := TX1) (N := 9) wz_X1 tyX1 tyX1_ok nmX1 0 rfl rfl 8 (by decide) wf_X1_59 rfl rfl rfl (Nat.le_of_ble_eq_true rfl) (w' := (stW tA a (uX (uF (uD (uN (uW (uV (uB (uP (uM s (sM s2)) (sP s2)) (sB s2)) (sV s2)) (sW s2)) (sN s2)) (sD s2)) (sF s2)) (sX s2)) ++ (stW tA b s2))) rfl dX1_copyFrom_99 ?_
  exact j_endV (pc := 102) E dX1_copyFrom_102 rfl
theorem cd_X0_size : kCardV yX0_size cX0_size 1 (some .int) 0 := ⟨⟨wc_X0_size, wi_X0, by decide +kernel, by decide +kernel, rfl⟩, wk_X0_size, ws_X0_size⟩
set_option maxHeartbeats 4000000 in
set_option maxRecDepth 100000 in
theorem c_X0_size (l : Launch) (D : va_G) (tA : Nat → ClassId) (h : Nat → Nat) (d : Nat → Nat → Nat) (nx sz : Nat)  : Kx l D tA yX0_size cX0_size 1 (some .int) 0 0 [.ref (h 0)] ([(h 0, .inr (0, [.ref (h 1), .int (nI nx), .int (nI sz)])), (h 1, .inl (tA 2, 4, .inr (.inr (.inr (.inr (fun i => some (d i 0)))))))]) (some (.int (nI sz))) ([(h 0, .inr (0, [.ref (h 1), .int (nI nx), .int (nI sz)])), (h 1, .inl (tA 2, 4, .inr (.inr (.inr (.inr (fun i => some (d i 0)))))))]) := by
  refine kx_int rfl (Nat.le_of_ble_eq_true rfl) (fun G X E => ?_)
  show J l D G 0 0 ([(h 0, .inr (0, [.ref (h 1), .int (nI nx), .int (nI sz)])), (h 1, .inl (tA 2, 4, .inr (.inr (.inr (.inr (fun i => some (d i 0)))))))]) [(0, .ref (h 0))] 0 []
  refine j_aload_n (pc := 0) X dX0_size_0 rfl (q := 0) rfl ?_
  refine j_get (pc := 1) X (C := RX0) (T := TX0) (N := 3) wz_X0 0 rfl rfl 2 (by decide) wf_X0_18 rfl dX0_size_1 ?_
  exact j_endI (pc := 4) E dX0_size_4 rfl rfl
theorem cd_X0_stateAt : kCardV yX0_stateAt cX0_stateAt 2 (some (.object "BallastClub$State")) 1 := ⟨⟨wc_X0_stateAt, wi_X0, by decide +kernel, by decide +kernel, rfl⟩, wk_X0_stateAt, ws_X0_stateAt⟩
set_option maxHeartbeats 4000000 in
set_option maxRecDepth 100000 in
theorem c_X0_stateAt (l : Launch) (D : va_G) (tA : Nat → ClassId) (h : Nat → Nat) (d : Nat → Nat → Nat) (nx sz i : Nat) (hi : i < 4) : Kx l D tA yX0_stateAt cX0_stateAt 2 (some (.object "BallastClub$State")) 0 0 [.ref (h 0), .int (nI i)] ([(h 0, .inr (0, [.ref (h 1), .int (nI nx), .int (nI sz)])), (h 1, .inl (tA 2, 4, .inr (.inr (.inr (.inr (fun i => some (d i 0)))))))]) (some (.ref (d i 0))) ([(h 0, .inr (0, [.ref (h 1), .int (nI nx), .int (nI sz)])), (h 1, .inl (tA 2, 4, .inr (.inr (.inr (.inr (fun i => some (d i 0)))))))]) := by
  refine kx_ref rfl (Nat.le_of_ble_eq_true rfl) (fun G X E => ?_)
  show J l D G 0 0 ([(h 0, .inr (0, [.ref (h 1), .int (nI nx), .int (nI sz)])), (h 1, .inl (tA 2, 4, .inr (.inr (.inr (.inr (fun i => some (d i 0)))))))]) [(0, .ref (h 0)), (1, .int (nI i))] 0 []
  refine j_iload_n (pc := 0) X dX0_stateAt_0 rfl (q := 1) rfl ?_
  refine j_if_lt_f (pc := 1) X (tgt := 22) dX0_stateAt_1 (by decide) (nI_pos (by omega)) ?_
  refine j_iload_n (pc := 4) X dX0_stateAt_4 rfl (q := 1) rfl ?_
  refine j_aload_n (pc := 5) X dX0_stateAt_5 rfl (q := 0) rfl ?_
  refine j_get (pc := 6) X (C := RX0) (T := TX0) (N := 3) wz_X0 0 rfl rfl 0 (by decide) wf_X0_11 rfl dX0_stateAt_6 ?_
  refine j_alen (pc := 9) X 1 2 rfl rfl dX0_stateAt_9 ?_
  refine j_icmp_ge_f (pc := 10) X (tgt := 22) dX0_stateAt_10 (by decide) (nI_ge hi (by omega)) ?_
  refine j_aload_n (pc := 13) X dX0_stateAt_13 rfl (q := 0) rfl ?_
  refine j_get (pc := 14) X (C := RX0) (T := TX0) (N := 3) wz_X0 0 rfl rfl 0 (by decide) wf_X0_11 rfl dX0_stateAt_14 ?_
  refine j_iload_n (pc := 17) X dX0_stateAt_17 rfl (q := 1) rfl ?_
  refine j_aald (pc := 18) X 1 (i := i) rfl (by omega) (by omega) (v := (d i 0)) rfl dX0_stateAt_18 ?_
  refine j_goto (pc := 19) X (tgt := 23) dX0_stateAt_19 (by decide) ?_
  exact j_endA (pc := 23) E dX0_stateAt_23 rfl rfl
theorem cd_X0_push : kCardV yX0_push cX0_push 3 none 1 := ⟨⟨wc_X0_push, wi_X0, by decide +kernel, by decide +kernel, rfl⟩, wk_X0_push, ws_X0_push⟩
theorem cd_X0_popInto : kCardV yX0_popInto cX0_popInto 4 none 1 := ⟨⟨wc_X0_popInto, wi_X0, by decide +kernel, by decide +kernel, rfl⟩, wk_X0_popInto, ws_X0_popInto⟩
set_option maxHeartbeats 4000000 in
set_option maxRecDepth 100000 in
theorem c_X0_push_0 (l : Launch) (D : va_G) (tA : Nat → ClassId) (h : Nat → Nat) (d : Nat → Nat → Nat) (hs : Nat → Sg) (sz : Nat) (a : Nat → Nat) (s : Sg) (hsz : sz ≤ 4) (hh : ∀ i, Wf (hs i)) (hw : Wf s) : Kx l D tA yX0_push cX0_push 3 none 3 60 [.ref (h 0), .ref (a 0)] ([(h 0, .inr (0, [.ref (h 1), .int (nI 0), .int (nI sz)])), (h 1, .inl (tA 2, 4, .inr (.inr (.inr (.inr (fun i => some (d i 0)))))))] ++ (stW tA (d 0) (hs 0) ++ (stW tA (d 1) (hs 1) ++ (stW tA (d 2) (hs 2) ++ (stW tA (d 3) (hs 3) ++ (stW tA a s)))))) none ([(h 0, .inr (0, [.ref (h 1), .int (nI 1), .int (nI (min (sz + 1) 4))])), (h 1, .inl (tA 2, 4, .inr (.inr (.inr (.inr (fun i => some (d i 0)))))))] ++ (stW tA (d 0) s ++ (stW tA (d 1) (hs 1) ++ (stW tA (d 2) (hs 2) ++ (stW tA (d 3) (hs 3) ++ (stW tA a s)))))) := by
  refine kx_void rfl (Nat.le_of_ble_eq_true rfl) (fun G X E => ?_)
  show J l D G 0 0 ([(h 0, .inr (0, [.ref (h 1), .int (nI 0), .int (nI sz)])), (h 1, .inl (tA 2, 4, .inr (.inr (.inr (.inr (fun i => some (d i 0)))))))] ++ (stW tA (d 0) (hs 0) ++ (stW tA (d 1) (hs 1) ++ (stW tA (d 2) (hs 2) ++ (stW tA (d 3) (hs 3) ++ (stW tA a s)))))) [(0, .ref (h 0)), (1, .ref (a 0))] 0 []
  refine j_aload_n (pc := 0) X dX0_push_0 rfl (q := 0) rfl ?_
  refine j_aload_n (pc := 1) X dX0_push_1 rfl (q := 0) rfl ?_
  refine j_get (pc := 2) X (C := RX0) (T := TX0) (N := 3) wz_X0 0 rfl rfl 1 (by decide) wf_X0_22 rfl dX0_push_2 ?_
  refine j_callVR (pc := 5) X (st := [])  (c_X0_stateAt l D tA h d 0 sz 0 (by omega)) cd_X0_stateAt wm_X0_25 0 rfl rfl rfl [0, 1] rfl rfl ⟨Nat.le_of_ble_eq_true rfl, Nat.le_of_ble_eq_true rfl⟩ ⟨Nat.zero_le _, Nat.zero_le _⟩ rfl (Nat.le_of_ble_eq_true rfl) dX0_push_5 ?_
  refine j_astore_n (pc := 8) X (lv' := [(2, .ref ((d 0) 0)), (0, .ref (h 0)), (1, .ref (a 0))]) dX0_push_8 rfl (by decide) rfl ?_
  refine j_aload_n (pc := 9) X dX0_push_9 rfl (q := 0) rfl ?_
  refine j_ifnonnull (pc := 10) X (tgt := 14) dX0_push_10 (by decide) ?_
  refine j_aload_n (pc := 14) X dX0_push_14 rfl (q := 0) rfl ?_
  refine j_aload_n (pc := 15) X dX0_push_15 rfl (q := 2) rfl ?_
  refine j_callVB (pc := 16) X (st := []) (wr := ([(h 0, .inr (0, [.ref (h 1), .int (nI 0), .int (nI sz)])), (h 1, .inl (tA 2, 4, .inr (.inr (.inr (.inr (fun i => some (d i 0)))))))] ++ (stW tA (d 1) (hs 1) ++ (stW tA (d 2) (hs 2) ++ (stW tA (d 3) (hs 3)))))) (w' := ([(h 0, .inr (0, [.ref (h 1), .int (nI 0), .int (nI sz)])), (h 1, .inl (tA 2, 4, .inr (.inr (.inr (.inr (fun i => some (d i 0)))))))] ++ (stW tA (d 0) s ++ (stW tA (d 1) (hs 1) ++ (stW tA (d 2) (hs 2) ++ (stW tA (d 3) (hs 3) ++ (stW tA a s))))))) (c_X1_copyFrom l D tA (d 0) (hs 0) a s (hh 0) hw) cd_X1_copyFrom wm_X0_29 2 rfl rfl rfl [2, 3, 4, 5, 6, 7, 8, 9, 10, 11, 42, 43, 44, 45, 46, 47, 48, 49, 50, 51] rfl rfl [0, 1, 12, 13, 14, 15, 16, 17, 18, 19, 20, 21, 22, 23, 24, 25, 26, 27, 28, 29, 30, 31, 32, 33, 34, 35, 36, 37, 38, 39, 40, 41] rfl rfl (fst_app (st_fst.trans st_fst.symm) rfl) [20, 21, 0, 1, 2, 3, 4, 5, 6, 7, 8, 9, 22, 23, 24, 25, 26, 27, 28, 29, 30, 31, 32, 33, 34, 35, 36, 37, 38, 39, 40, 41, 42, 43, 44, 45, 46, 47, 48, 49, 50, 51, 10, 11, 12, 13, 14, 15, 16, 17, 18, 19] rfl rfl ⟨Nat.le_of_ble_eq_true rfl, Nat.le_of_ble_eq_true rfl⟩ ⟨Nat.zero_le _, Nat.zero_le _⟩ rfl (Nat.le_of_ble_eq_true rfl) dX0_push_16 ?_
  refine j_aload_n (pc := 19) X dX0_push_19 rfl (q := 1) rfl ?_
  refine j_aload_n (pc := 20) X dX0_push_20 rfl (q := 1) rfl ?_
  refine j_get (pc := 21) X (C := RX0) (T := TX0) (N := 3) wz_X0 0 rfl rfl 1 (by decide) wf_X0_22 rfl dX0_push_21 ?_
  refine j_iconst (pc := 24) X (v := (nI 1)) dX0_push_24 (by decide) ?_
  refine j_iadd (pc := 25) X (v := (nI 1)) dX0_push_25 (nI_add _ _) ?_
  refine j_iconst (pc := 26) X (v := (nI 4)) dX0_push_26 (by decide) ?_
  refine j_irem (pc := 27) X (v := (nI 1)) dX0_push_27 (by decide +kernel) (by decide +kernel) ?_
  refine j_put (pc := 28) X (C := RX0) (T := TX0) (N := 3) wz_X0 tyX0 tyX0_ok nmX0 0 rfl rfl 1 (by decide) wf_X0_22 rfl rfl rfl (Nat.le_of_ble_eq_true rfl) (w' := ([(h 0, .inr (0, [.ref (h 1), .int (nI 1), .int (nI sz)])), (h 1, .inl (tA 2, 4, .inr (.inr (.inr (.inr (fun i => some (d i 0)))))))] ++ (stW tA (d 0) s ++ (stW tA (d 1) (hs 1) ++ (stW tA (d 2) (hs 2) ++ (stW tA (d 3) (hs 3) ++ (stW tA a s))))))) rfl dX0_push_28 ?_
  refine j_aload_n (pc := 31) X dX0_push_31 rfl (q := 1) rfl ?_
  refine j_aload_n (pc := 32) X dX0_push_32 rfl (q := 1) rfl ?_
  refine j_get (pc := 33) X (C := RX0) (T := TX0) (N := 3) wz_X0 0 rfl rfl 2 (by decide) wf_X0_18 rfl dX0_push_33 ?_
  refine j_iconst (pc := 36) X (v := (nI 1)) dX0_push_36 (by decide) ?_
  refine j_iadd (pc := 37) X (v := (nI (sz + 1))) dX0_push_37 (nI_add _ _) ?_
  refine j_iconst (pc := 38) X (v := (nI 4)) dX0_push_38 (by decide) ?_
  refine j_mmin (pc := 39) X wm_X0_33 (Nat.le_of_ble_eq_true rfl) (Nat.le_of_ble_eq_true rfl) ⟨Nat.zero_le _, Nat.zero_le _⟩ (v := (nI (min (sz + 1) 4))) (nI_min (by omega) (by omega)) dX0_push_39 ?_
  refine j_put (pc := 42) X (C := RX0) (T := TX0) (N := 3) wz_X0 tyX0 tyX0_ok nmX0 0 rfl rfl 2 (by decide) wf_X0_18 rfl rfl rfl (Nat.le_of_ble_eq_true rfl) (w' := ([(h 0, .inr (0, [.ref (h 1), .int (nI 1), .int (nI (min (sz + 1) 4))])), (h 1, .inl (tA 2, 4, .inr (.inr (.inr (.inr (fun i => some (d i 0)))))))] ++ (stW tA (d 0) s ++ (stW tA (d 1) (hs 1) ++ (stW tA (d 2) (hs 2) ++ (stW tA (d 3) (hs 3) ++ (stW tA a s))))))) rfl dX0_push_42 ?_
  exact j_endV (pc := 45) E dX0_push_45 rfl
set_option maxHeartbeats 4000000 in
set_option maxRecDepth 100000 in
theorem c_X0_popInto_0 (l : Launch) (D : va_G) (tA : Nat → ClassId) (h : Nat → Nat) (d : Nat → Nat → Nat) (hs : Nat → Sg) (sz : Nat) (a : Nat → Nat) (s : Sg) (hsz : sz ≤ 4) (h0 : 1 ≤ sz) (hh : ∀ i, Wf (hs i)) (hw : Wf s) : Kx l D tA yX0_popInto cX0_popInto 4 none 3 60 [.ref (h 0), .ref (a 0)] ([(h 0, .inr (0, [.ref (h 1), .int (nI 0), .int (nI sz)])), (h 1, .inl (tA 2, 4, .inr (.inr (.inr (.inr (fun i => some (d i 0)))))))] ++ (stW tA (d 0) (hs 0) ++ (stW tA (d 1) (hs 1) ++ (stW tA (d 2) (hs 2) ++ (stW tA (d 3) (hs 3) ++ (stW tA a s)))))) none ([(h 0, .inr (0, [.ref (h 1), .int (nI 3), .int (nI (sz - 1))])), (h 1, .inl (tA 2, 4, .inr (.inr (.inr (.inr (fun i => some (d i 0)))))))] ++ (stW tA (d 0) (hs 0) ++ (stW tA (d 1) (hs 1) ++ (stW tA (d 2) (hs 2) ++ (stW tA (d 3) (hs 3) ++ (stW tA a (hs 3))))))) := by
  refine kx_void rfl (Nat.le_of_ble_eq_true rfl) (fun G X E => ?_)
  show J l D G 0 0 ([(h 0, .inr (0, [.ref (h 1), .int (nI 0), .int (nI sz)])), (h 1, .inl (tA 2, 4, .inr (.inr (.inr (.inr (fun i => some (d i 0)))))))] ++ (stW tA (d 0) (hs 0) ++ (stW tA (d 1) (hs 1) ++ (stW tA (d 2) (hs 2) ++ (stW tA (d 3) (hs 3) ++ (stW tA a s)))))) [(0, .ref (h 0)), (1, .ref (a 0))] 0 []
  refine j_aload_n (pc := 0) X dX0_popInto_0 rfl (q := 0) rfl ?_
  refine j_get (pc := 1) X (C := RX0) (T := TX0) (N := 3) wz_X0 0 rfl rfl 1 (by decide) wf_X0_22 rfl dX0_popInto_1 ?_
  refine j_iconst (pc := 4) X (v := (nI 4)) dX0_popInto_4 (by decide) ?_
  refine j_iadd (pc := 5) X (v := (nI 4)) dX0_popInto_5 (nI_add _ _) ?_
  refine j_iconst (pc := 6) X (v := (nI 1)) dX0_popInto_6 (by decide) ?_
  refine j_isub (pc := 7) X (v := (nI 3)) dX0_popInto_7 (pk_sub (by omega)) ?_
  refine j_iconst (pc := 8) X (v := (nI 4)) dX0_popInto_8 (by decide) ?_
  refine j_irem (pc := 9) X (v := (nI 3)) dX0_popInto_9 (by decide +kernel) (by decide +kernel) ?_
  refine j_istore_n (pc := 10) X (lv' := [(2, .int (nI 3)), (0, .ref (h 0)), (1, .ref (a 0))]) dX0_popInto_10 rfl (by decide) rfl ?_
  refine j_aload_n (pc := 11) X dX0_popInto_11 rfl (q := 1) rfl ?_
  refine j_iload_n (pc := 12) X dX0_popInto_12 rfl (q := 0) rfl ?_
  refine j_callVR (pc := 13) X (st := [])  (c_X0_stateAt l D tA h d 0 sz 3 (by omega)) cd_X0_stateAt wm_X0_25 0 rfl rfl rfl [0, 1] rfl rfl ⟨Nat.le_of_ble_eq_true rfl, Nat.le_of_ble_eq_true rfl⟩ ⟨Nat.zero_le _, Nat.zero_le _⟩ rfl (Nat.le_of_ble_eq_true rfl) dX0_popInto_13 ?_
  refine j_astore_n (pc := 16) X (lv' := [(3, .ref ((d 3) 0)), (2, .int (nI 3)), (0, .ref (h 0)), (1, .ref (a 0))]) dX0_popInto_16 rfl (by decide) rfl ?_
  refine j_aload_n (pc := 17) X dX0_popInto_17 rfl (q := 2) rfl ?_
  refine j_get (pc := 18) X (C := RX0) (T := TX0) (N := 3) wz_X0 0 rfl rfl 2 (by decide) wf_X0_18 rfl dX0_popInto_18 ?_
  refine j_if_eq_f (pc := 21) X (tgt := 28) dX0_popInto_21 (by decide) (nI_ne0 (by omega) (by omega)) ?_
  refine j_aload_n (pc := 24) X dX0_popInto_24 rfl (q := 0) rfl ?_
  refine j_ifnonnull (pc := 25) X (tgt := 29) dX0_popInto_25 (by decide) ?_
  refine j_aload_n (pc := 29) X dX0_popInto_29 rfl (q := 3) rfl ?_
  refine j_aload_n (pc := 30) X dX0_popInto_30 rfl (q := 0) rfl ?_
  refine j_callVB (pc := 31) X (st := []) (wr := ([(h 0, .inr (0, [.ref (h 1), .int (nI 0), .int (nI sz)])), (h 1, .inl (tA 2, 4, .inr (.inr (.inr (.inr (fun i => some (d i 0)))))))] ++ (stW tA (d 0) (hs 0) ++ (stW tA (d 1) (hs 1) ++ (stW tA (d 2) (hs 2)))))) (w' := ([(h 0, .inr (0, [.ref (h 1), .int (nI 0), .int (nI sz)])), (h 1, .inl (tA 2, 4, .inr (.inr (.inr (.inr (fun i => some (d i 0)))))))] ++ (stW tA (d 0) (hs 0) ++ (stW tA (d 1) (hs 1) ++ (stW tA (d 2) (hs 2) ++ (stW tA (d 3) (hs 3) ++ (stW tA a (hs 3)))))))) (c_X1_copyFrom l D tA a s (d 3) (hs 3) hw (hh 3)) cd_X1_copyFrom wm_X0_29 42 rfl rfl rfl [42, 43, 44, 45, 46, 47, 48, 49, 50, 51, 32, 33, 34, 35, 36, 37, 38, 39, 40, 41] rfl rfl [0, 1, 2, 3, 4, 5, 6, 7, 8, 9, 10, 11, 12, 13, 14, 15, 16, 17, 18, 19, 20, 21, 22, 23, 24, 25, 26, 27, 28, 29, 30, 31] rfl rfl (fst_app (st_fst.trans st_fst.symm) rfl) [20, 21, 22, 23, 24, 25, 26, 27, 28, 29, 30, 31, 32, 33, 34, 35, 36, 37, 38, 39, 40, 41, 42, 43, 44, 45, 46, 47, 48, 49, 50, 51, 10, 11, 12, 13, 14, 15, 16, 17, 18, 19, 0, 1, 2, 3, 4, 5, 6, 7, 8, 9] rfl rfl ⟨Nat.le_of_ble_eq_true rfl, Nat.le_of_ble_eq_true rfl⟩ ⟨Nat.zero_le _, Nat.zero_le _⟩ rfl (Nat.le_of_ble_eq_true rfl) dX0_popInto_31 ?_
  refine j_aload_n (pc := 34) X dX0_popInto_34 rfl (q := 2) rfl ?_
  refine j_iload_n (pc := 35) X dX0_popInto_35 rfl (q := 1) rfl ?_
  refine j_put (pc := 36) X (C := RX0) (T := TX0) (N := 3) wz_X0 tyX0 tyX0_ok nmX0 0 rfl rfl 1 (by decide) wf_X0_22 rfl rfl rfl (Nat.le_of_ble_eq_true rfl) (w' := ([(h 0, .inr (0, [.ref (h 1), .int (nI 3), .int (nI sz)])), (h 1, .inl (tA 2, 4, .inr (.inr (.inr (.inr (fun i => some (d i 0)))))))] ++ (stW tA (d 0) (hs 0) ++ (stW tA (d 1) (hs 1) ++ (stW tA (d 2) (hs 2) ++ (stW tA (d 3) (hs 3) ++ (stW tA a (hs 3)))))))) rfl dX0_popInto_36 ?_
  refine j_aload_n (pc := 39) X dX0_popInto_39 rfl (q := 2) rfl ?_
  refine j_dup (pc := 40) X dX0_popInto_40 rfl ?_
  refine j_get (pc := 41) X (C := RX0) (T := TX0) (N := 3) wz_X0 0 rfl rfl 2 (by decide) wf_X0_18 rfl dX0_popInto_41 ?_
  refine j_iconst (pc := 44) X (v := (nI 1)) dX0_popInto_44 (by decide) ?_
  refine j_isub (pc := 45) X (v := (nI (sz - 1))) dX0_popInto_45 (pk_sub (by omega)) ?_
  refine j_put (pc := 46) X (C := RX0) (T := TX0) (N := 3) wz_X0 tyX0 tyX0_ok nmX0 0 rfl rfl 2 (by decide) wf_X0_18 rfl rfl rfl (Nat.le_of_ble_eq_true rfl) (w' := ([(h 0, .inr (0, [.ref (h 1), .int (nI 3), .int (nI (sz - 1))])), (h 1, .inl (tA 2, 4, .inr (.inr (.inr (.inr (fun i => some (d i 0)))))))] ++ (stW tA (d 0) (hs 0) ++ (stW tA (d 1) (hs 1) ++ (stW tA (d 2) (hs 2) ++ (stW tA (d 3) (hs 3) ++ (stW tA a (hs 3)))))))) rfl dX0_popInto_46 ?_
  exact j_endV (pc := 49) E dX0_popInto_49 rfl
set_option maxHeartbeats 4000000 in
set_option maxRecDepth 100000 in
theorem c_X0_push_1 (l : Launch) (D : va_G) (tA : Nat → ClassId) (h : Nat → Nat) (d : Nat → Nat → Nat) (hs : Nat → Sg) (sz : Nat) (a : Nat → Nat) (s : Sg) (hsz : sz ≤ 4) (hh : ∀ i, Wf (hs i)) (hw : Wf s) : Kx l D tA yX0_push cX0_push 3 none 3 60 [.ref (h 0), .ref (a 0)] ([(h 0, .inr (0, [.ref (h 1), .int (nI 1), .int (nI sz)])), (h 1, .inl (tA 2, 4, .inr (.inr (.inr (.inr (fun i => some (d i 0)))))))] ++ (stW tA (d 0) (hs 0) ++ (stW tA (d 1) (hs 1) ++ (stW tA (d 2) (hs 2) ++ (stW tA (d 3) (hs 3) ++ (stW tA a s)))))) none ([(h 0, .inr (0, [.ref (h 1), .int (nI 2), .int (nI (min (sz + 1) 4))])), (h 1, .inl (tA 2, 4, .inr (.inr (.inr (.inr (fun i => some (d i 0)))))))] ++ (stW tA (d 0) (hs 0) ++ (stW tA (d 1) s ++ (stW tA (d 2) (hs 2) ++ (stW tA (d 3) (hs 3) ++ (stW tA a s)))))) := by
  refine kx_void rfl (Nat.le_of_ble_eq_true rfl) (fun G X E => ?_)
  show J l D G 0 0 ([(h 0, .inr (0, [.ref (h 1), .int (nI 1), .int (nI sz)])), (h 1, .inl (tA 2, 4, .inr (.inr (.inr (.inr (fun i => some (d i 0)))))))] ++ (stW tA (d 0) (hs 0) ++ (stW tA (d 1) (hs 1) ++ (stW tA (d 2) (hs 2) ++ (stW tA (d 3) (hs 3) ++ (stW tA a s)))))) [(0, .ref (h 0)), (1, .ref (a 0))] 0 []
  refine j_aload_n (pc := 0) X dX0_push_0 rfl (q := 0) rfl ?_
  refine j_aload_n (pc := 1) X dX0_push_1 rfl (q := 0) rfl ?_
  refine j_get (pc := 2) X (C := RX0) (T := TX0) (N := 3) wz_X0 0 rfl rfl 1 (by decide) wf_X0_22 rfl dX0_push_2 ?_
  refine j_callVR (pc := 5) X (st := [])  (c_X0_stateAt l D tA h d 1 sz 1 (by omega)) cd_X0_stateAt wm_X0_25 0 rfl rfl rfl [0, 1] rfl rfl ⟨Nat.le_of_ble_eq_true rfl, Nat.le_of_ble_eq_true rfl⟩ ⟨Nat.zero_le _, Nat.zero_le _⟩ rfl (Nat.le_of_ble_eq_true rfl) dX0_push_5 ?_
  refine j_astore_n (pc := 8) X (lv' := [(2, .ref ((d 1) 0)), (0, .ref (h 0)), (1, .ref (a 0))]) dX0_push_8 rfl (by decide) rfl ?_
  refine j_aload_n (pc := 9) X dX0_push_9 rfl (q := 0) rfl ?_
  refine j_ifnonnull (pc := 10) X (tgt := 14) dX0_push_10 (by decide) ?_
  refine j_aload_n (pc := 14) X dX0_push_14 rfl (q := 0) rfl ?_
  refine j_aload_n (pc := 15) X dX0_push_15 rfl (q := 2) rfl ?_
  refine j_callVB (pc := 16) X (st := []) (wr := ([(h 0, .inr (0, [.ref (h 1), .int (nI 1), .int (nI sz)])), (h 1, .inl (tA 2, 4, .inr (.inr (.inr (.inr (fun i => some (d i 0)))))))] ++ (stW tA (d 0) (hs 0) ++ (stW tA (d 2) (hs 2) ++ (stW tA (d 3) (hs 3)))))) (w' := ([(h 0, .inr (0, [.ref (h 1), .int (nI 1), .int (nI sz)])), (h 1, .inl (tA 2, 4, .inr (.inr (.inr (.inr (fun i => some (d i 0)))))))] ++ (stW tA (d 0) (hs 0) ++ (stW tA (d 1) s ++ (stW tA (d 2) (hs 2) ++ (stW tA (d 3) (hs 3) ++ (stW tA a s))))))) (c_X1_copyFrom l D tA (d 1) (hs 1) a s (hh 1) hw) cd_X1_copyFrom wm_X0_29 12 rfl rfl rfl [12, 13, 14, 15, 16, 17, 18, 19, 20, 21, 42, 43, 44, 45, 46, 47, 48, 49, 50, 51] rfl rfl [0, 1, 2, 3, 4, 5, 6, 7, 8, 9, 10, 11, 22, 23, 24, 25, 26, 27, 28, 29, 30, 31, 32, 33, 34, 35, 36, 37, 38, 39, 40, 41] rfl rfl (fst_app (st_fst.trans st_fst.symm) rfl) [20, 21, 22, 23, 24, 25, 26, 27, 28, 29, 30, 31, 0, 1, 2, 3, 4, 5, 6, 7, 8, 9, 32, 33, 34, 35, 36, 37, 38, 39, 40, 41, 42, 43, 44, 45, 46, 47, 48, 49, 50, 51, 10, 11, 12, 13, 14, 15, 16, 17, 18, 19] rfl rfl ⟨Nat.le_of_ble_eq_true rfl, Nat.le_of_ble_eq_true rfl⟩ ⟨Nat.zero_le _, Nat.zero_le _⟩ rfl (Nat.le_of_ble_eq_true rfl) dX0_push_16 ?_
  refine j_aload_n (pc := 19) X dX0_push_19 rfl (q := 1) rfl ?_
  refine j_aload_n (pc := 20) X dX0_push_20 rfl (q := 1) rfl ?_
  refine j_get (pc := 21) X (C := RX0) (T := TX0) (N := 3) wz_X0 0 rfl rfl 1 (by decide) wf_X0_22 rfl dX0_push_21 ?_
  refine j_iconst (pc := 24) X (v := (nI 1)) dX0_push_24 (by decide) ?_
  refine j_iadd (pc := 25) X (v := (nI 2)) dX0_push_25 (nI_add _ _) ?_
  refine j_iconst (pc := 26) X (v := (nI 4)) dX0_push_26 (by decide) ?_
  refine j_irem (pc := 27) X (v := (nI 2)) dX0_push_27 (by decide +kernel) (by decide +kernel) ?_
  refine j_put (pc := 28) X (C := RX0) (T := TX0) (N := 3) wz_X0 tyX0 tyX0_ok nmX0 0 rfl rfl 1 (by decide) wf_X0_22 rfl rfl rfl (Nat.le_of_ble_eq_true rfl) (w' := ([(h 0, .inr (0, [.ref (h 1), .int (nI 2), .int (nI sz)])), (h 1, .inl (tA 2, 4, .inr (.inr (.inr (.inr (fun i => some (d i 0)))))))] ++ (stW tA (d 0) (hs 0) ++ (stW tA (d 1) s ++ (stW tA (d 2) (hs 2) ++ (stW tA (d 3) (hs 3) ++ (stW tA a s))))))) rfl dX0_push_28 ?_
  refine j_aload_n (pc := 31) X dX0_push_31 rfl (q := 1) rfl ?_
  refine j_aload_n (pc := 32) X dX0_push_32 rfl (q := 1) rfl ?_
  refine j_get (pc := 33) X (C := RX0) (T := TX0) (N := 3) wz_X0 0 rfl rfl 2 (by decide) wf_X0_18 rfl dX0_push_33 ?_
  refine j_iconst (pc := 36) X (v := (nI 1)) dX0_push_36 (by decide) ?_
  refine j_iadd (pc := 37) X (v := (nI (sz + 1))) dX0_push_37 (nI_add _ _) ?_
  refine j_iconst (pc := 38) X (v := (nI 4)) dX0_push_38 (by decide) ?_
  refine j_mmin (pc := 39) X wm_X0_33 (Nat.le_of_ble_eq_true rfl) (Nat.le_of_ble_eq_true rfl) ⟨Nat.zero_le _, Nat.zero_le _⟩ (v := (nI (min (sz + 1) 4))) (nI_min (by omega) (by omega)) dX0_push_39 ?_
  refine j_put (pc := 42) X (C := RX0) (T := TX0) (N := 3) wz_X0 tyX0 tyX0_ok nmX0 0 rfl rfl 2 (by decide) wf_X0_18 rfl rfl rfl (Nat.le_of_ble_eq_true rfl) (w' := ([(h 0, .inr (0, [.ref (h 1), .int (nI 2), .int (nI (min (sz + 1) 4))])), (h 1, .inl (tA 2, 4, .inr (.inr (.inr (.inr (fun i => some (d i 0)))))))] ++ (stW tA (d 0) (hs 0) ++ (stW tA (d 1) s ++ (stW tA (d 2) (hs 2) ++ (stW tA (d 3) (hs 3) ++ (stW tA a s))))))) rfl dX0_push_42 ?_
  exact j_endV (pc := 45) E dX0_push_45 rfl
set_option maxHeartbeats 4000000 in
set_option maxRecDepth 100000 in
theorem c_X0_popInto_1 (l : Launch) (D : va_G) (tA : Nat → ClassId) (h : Nat → Nat) (d : Nat → Nat → Nat) (hs : Nat → Sg) (sz : Nat) (a : Nat → Nat) (s : Sg) (hsz : sz ≤ 4) (h0 : 1 ≤ sz) (hh : ∀ i, Wf (hs i)) (hw : Wf s) : Kx l D tA yX0_popInto cX0_popInto 4 none 3 60 [.ref (h 0), .ref (a 0)] ([(h 0, .inr (0, [.ref (h 1), .int (nI 1), .int (nI sz)])), (h 1, .inl (tA 2, 4, .inr (.inr (.inr (.inr (fun i => some (d i 0)))))))] ++ (stW tA (d 0) (hs 0) ++ (stW tA (d 1) (hs 1) ++ (stW tA (d 2) (hs 2) ++ (stW tA (d 3) (hs 3) ++ (stW tA a s)))))) none ([(h 0, .inr (0, [.ref (h 1), .int (nI 0), .int (nI (sz - 1))])), (h 1, .inl (tA 2, 4, .inr (.inr (.inr (.inr (fun i => some (d i 0)))))))] ++ (stW tA (d 0) (hs 0) ++ (stW tA (d 1) (hs 1) ++ (stW tA (d 2) (hs 2) ++ (stW tA (d 3) (hs 3) ++ (stW tA a (hs 0))))))) := by
  refine kx_void rfl (Nat.le_of_ble_eq_true rfl) (fun G X E => ?_)
  show J l D G 0 0 ([(h 0, .inr (0, [.ref (h 1), .int (nI 1), .int (nI sz)])), (h 1, .inl (tA 2, 4, .inr (.inr (.inr (.inr (fun i => some (d i 0)))))))] ++ (stW tA (d 0) (hs 0) ++ (stW tA (d 1) (hs 1) ++ (stW tA (d 2) (hs 2) ++ (stW tA (d 3) (hs 3) ++ (stW tA a s)))))) [(0, .ref (h 0)), (1, .ref (a 0))] 0 []
  refine j_aload_n (pc := 0) X dX0_popInto_0 rfl (q := 0) rfl ?_
  refine j_get (pc := 1) X (C := RX0) (T := TX0) (N := 3) wz_X0 0 rfl rfl 1 (by decide) wf_X0_22 rfl dX0_popInto_1 ?_
  refine j_iconst (pc := 4) X (v := (nI 4)) dX0_popInto_4 (by decide) ?_
  refine j_iadd (pc := 5) X (v := (nI 5)) dX0_popInto_5 (nI_add _ _) ?_
  refine j_iconst (pc := 6) X (v := (nI 1)) dX0_popInto_6 (by decide) ?_
  refine j_isub (pc := 7) X (v := (nI 4)) dX0_popInto_7 (pk_sub (by omega)) ?_
  refine j_iconst (pc := 8) X (v := (nI 4)) dX0_popInto_8 (by decide) ?_
  refine j_irem (pc := 9) X (v := (nI 0)) dX0_popInto_9 (by decide +kernel) (by decide +kernel) ?_
  refine j_istore_n (pc := 10) X (lv' := [(2, .int (nI 0)), (0, .ref (h 0)), (1, .ref (a 0))]) dX0_popInto_10 rfl (by decide) rfl ?_
  refine j_aload_n (pc := 11) X dX0_popInto_11 rfl (q := 1) rfl ?_
  refine j_iload_n (pc := 12) X dX0_popInto_12 rfl (q := 0) rfl ?_
  refine j_callVR (pc := 13) X (st := [])  (c_X0_stateAt l D tA h d 1 sz 0 (by omega)) cd_X0_stateAt wm_X0_25 0 rfl rfl rfl [0, 1] rfl rfl ⟨Nat.le_of_ble_eq_true rfl, Nat.le_of_ble_eq_true rfl⟩ ⟨Nat.zero_le _, Nat.zero_le _⟩ rfl (Nat.le_of_ble_eq_true rfl) dX0_popInto_13 ?_
  refine j_astore_n (pc := 16) X (lv' := [(3, .ref ((d 0) 0)), (2, .int (nI 0)), (0, .ref (h 0)), (1, .ref (a 0))]) dX0_popInto_16 rfl (by decide) rfl ?_
  refine j_aload_n (pc := 17) X dX0_popInto_17 rfl (q := 2) rfl ?_
  refine j_get (pc := 18) X (C := RX0) (T := TX0) (N := 3) wz_X0 0 rfl rfl 2 (by decide) wf_X0_18 rfl dX0_popInto_18 ?_
  refine j_if_eq_f (pc := 21) X (tgt := 28) dX0_popInto_21 (by decide) (nI_ne0 (by omega) (by omega)) ?_
  refine j_aload_n (pc := 24) X dX0_popInto_24 rfl (q := 0) rfl ?_
  refine j_ifnonnull (pc := 25) X (tgt := 29) dX0_popInto_25 (by decide) ?_
  refine j_aload_n (pc := 29) X dX0_popInto_29 rfl (q := 3) rfl ?_
  refine j_aload_n (pc := 30) X dX0_popInto_30 rfl (q := 0) rfl ?_
  refine j_callVB (pc := 31) X (st := []) (wr := ([(h 0, .inr (0, [.ref (h 1), .int (nI 1), .int (nI sz)])), (h 1, .inl (tA 2, 4, .inr (.inr (.inr (.inr (fun i => some (d i 0)))))))] ++ (stW tA (d 1) (hs 1) ++ (stW tA (d 2) (hs 2) ++ (stW tA (d 3) (hs 3)))))) (w' := ([(h 0, .inr (0, [.ref (h 1), .int (nI 1), .int (nI sz)])), (h 1, .inl (tA 2, 4, .inr (.inr (.inr (.inr (fun i => some (d i 0)))))))] ++ (stW tA (d 0) (hs 0) ++ (stW tA (d 1) (hs 1) ++ (stW tA (d 2) (hs 2) ++ (stW tA (d 3) (hs 3) ++ (stW tA a (hs 0)))))))) (c_X1_copyFrom l D tA a s (d 0) (hs 0) hw (hh 0)) cd_X1_copyFrom wm_X0_29 42 rfl rfl rfl [42, 43, 44, 45, 46, 47, 48, 49, 50, 51, 2, 3, 4, 5, 6, 7, 8, 9, 10, 11] rfl rfl [0, 1, 12, 13, 14, 15, 16, 17, 18, 19, 20, 21, 22, 23, 24, 25, 26, 27, 28, 29, 30, 31, 32, 33, 34, 35, 36, 37, 38, 39, 40, 41] rfl rfl (fst_app (st_fst.trans st_fst.symm) rfl) [20, 21, 10, 11, 12, 13, 14, 15, 16, 17, 18, 19, 22, 23, 24, 25, 26, 27, 28, 29, 30, 31, 32, 33, 34, 35, 36, 37, 38, 39, 40, 41, 42, 43, 44, 45, 46, 47, 48, 49, 50, 51, 0, 1, 2, 3, 4, 5, 6, 7, 8, 9] rfl rfl ⟨Nat.le_of_ble_eq_true rfl, Nat.le_of_ble_eq_true rfl⟩ ⟨Nat.zero_le _, Nat.zero_le _⟩ rfl (Nat.le_of_ble_eq_true rfl) dX0_popInto_31 ?_
  refine j_aload_n (pc := 34) X dX0_popInto_34 rfl (q := 2) rfl ?_
  refine j_iload_n (pc := 35) X dX0_popInto_35 rfl (q := 1) rfl ?_
  refine j_put (pc := 36) X (C := RX0) (T := TX0) (N := 3) wz_X0 tyX0 tyX0_ok nmX0 0 rfl rfl 1 (by decide) wf_X0_22 rfl rfl rfl (Nat.le_of_ble_eq_true rfl) (w' := ([(h 0, .inr (0, [.ref (h 1), .int (nI 0), .int (nI sz)])), (h 1, .inl (tA 2, 4, .inr (.inr (.inr (.inr (fun i => some (d i 0)))))))] ++ (stW tA (d 0) (hs 0) ++ (stW tA (d 1) (hs 1) ++ (stW tA (d 2) (hs 2) ++ (stW tA (d 3) (hs 3) ++ (stW tA a (hs 0)))))))) rfl dX0_popInto_36 ?_
  refine j_aload_n (pc := 39) X dX0_popInto_39 rfl (q := 2) rfl ?_
  refine j_dup (pc := 40) X dX0_popInto_40 rfl ?_
  refine j_get (pc := 41) X (C := RX0) (T := TX0) (N := 3) wz_X0 0 rfl rfl 2 (by decide) wf_X0_18 rfl dX0_popInto_41 ?_
  refine j_iconst (pc := 44) X (v := (nI 1)) dX0_popInto_44 (by decide) ?_
  refine j_isub (pc := 45) X (v := (nI (sz - 1))) dX0_popInto_45 (pk_sub (by omega)) ?_
  refine j_put (pc := 46) X (C := RX0) (T := TX0) (N := 3) wz_X0 tyX0 tyX0_ok nmX0 0 rfl rfl 2 (by decide) wf_X0_18 rfl rfl rfl (Nat.le_of_ble_eq_true rfl) (w' := ([(h 0, .inr (0, [.ref (h 1), .int (nI 0), .int (nI (sz - 1))])), (h 1, .inl (tA 2, 4, .inr (.inr (.inr (.inr (fun i => some (d i 0)))))))] ++ (stW tA (d 0) (hs 0) ++ (stW tA (d 1) (hs 1) ++ (stW tA (d 2) (hs 2) ++ (stW tA (d 3) (hs 3) ++ (stW tA a (hs 0)))))))) rfl dX0_popInto_46 ?_
  exact j_endV (pc := 49) E dX0_popInto_49 rfl
set_option maxHeartbeats 4000000 in
set_option maxRecDepth 100000 in
theorem c_X0_push_2 (l : Launch) (D : va_G) (tA : Nat → ClassId) (h : Nat → Nat) (d : Nat → Nat → Nat) (hs : Nat → Sg) (sz : Nat) (a : Nat → Nat) (s : Sg) (hsz : sz ≤ 4) (hh : ∀ i, Wf (hs i)) (hw : Wf s) : Kx l D tA yX0_push cX0_push 3 none 3 60 [.ref (h 0), .ref (a 0)] ([(h 0, .inr (0, [.ref (h 1), .int (nI 2), .int (nI sz)])), (h 1, .inl (tA 2, 4, .inr (.inr (.inr (.inr (fun i => some (d i 0)))))))] ++ (stW tA (d 0) (hs 0) ++ (stW tA (d 1) (hs 1) ++ (stW tA (d 2) (hs 2) ++ (stW tA (d 3) (hs 3) ++ (stW tA a s)))))) none ([(h 0, .inr (0, [.ref (h 1), .int (nI 3), .int (nI (min (sz + 1) 4))])), (h 1, .inl (tA 2, 4, .inr (.inr (.inr (.inr (fun i => some (d i 0)))))))] ++ (stW tA (d 0) (hs 0) ++ (stW tA (d 1) (hs 1) ++ (stW tA (d 2) s ++ (stW tA (d 3) (hs 3) ++ (stW tA a s)))))) := by
  refine kx_void rfl (Nat.le_of_ble_eq_true rfl) (fun G X E => ?_)
  show J l D G 0 0 ([(h 0, .inr (0, [.ref (h 1), .int (nI 2), .int (nI sz)])), (h 1, .inl (tA 2, 4, .inr (.inr (.inr (.inr (fun i => some (d i 0)))))))] ++ (stW tA (d 0) (hs 0) ++ (stW tA (d 1) (hs 1) ++ (stW tA (d 2) (hs 2) ++ (stW tA (d 3) (hs 3) ++ (stW tA a s)))))) [(0, .ref (h 0)), (1, .ref (a 0))] 0 []
  refine j_aload_n (pc := 0) X dX0_push_0 rfl (q := 0) rfl ?_
  refine j_aload_n (pc := 1) X dX0_push_1 rfl (q := 0) rfl ?_
  refine j_get (pc := 2) X (C := RX0) (T := TX0) (N := 3) wz_X0 0 rfl rfl 1 (by decide) wf_X0_22 rfl dX0_push_2 ?_
  refine j_callVR (pc := 5) X (st := [])  (c_X0_stateAt l D tA h d 2 sz 2 (by omega)) cd_X0_stateAt wm_X0_25 0 rfl rfl rfl [0, 1] rfl rfl ⟨Nat.le_of_ble_eq_true rfl, Nat.le_of_ble_eq_true rfl⟩ ⟨Nat.zero_le _, Nat.zero_le _⟩ rfl (Nat.le_of_ble_eq_true rfl) dX0_push_5 ?_
  refine j_astore_n (pc := 8) X (lv' := [(2, .ref ((d 2) 0)), (0, .ref (h 0)), (1, .ref (a 0))]) dX0_push_8 rfl (by decide) rfl ?_
  refine j_aload_n (pc := 9) X dX0_push_9 rfl (q := 0) rfl ?_
  refine j_ifnonnull (pc := 10) X (tgt := 14) dX0_push_10 (by decide) ?_
  refine j_aload_n (pc := 14) X dX0_push_14 rfl (q := 0) rfl ?_
  refine j_aload_n (pc := 15) X dX0_push_15 rfl (q := 2) rfl ?_
  refine j_callVB (pc := 16) X (st := []) (wr := ([(h 0, .inr (0, [.ref (h 1), .int (nI 2), .int (nI sz)])), (h 1, .inl (tA 2, 4, .inr (.inr (.inr (.inr (fun i => some (d i 0)))))))] ++ (stW tA (d 0) (hs 0) ++ (stW tA (d 1) (hs 1) ++ (stW tA (d 3) (hs 3)))))) (w' := ([(h 0, .inr (0, [.ref (h 1), .int (nI 2), .int (nI sz)])), (h 1, .inl (tA 2, 4, .inr (.inr (.inr (.inr (fun i => some (d i 0)))))))] ++ (stW tA (d 0) (hs 0) ++ (stW tA (d 1) (hs 1) ++ (stW tA (d 2) s ++ (stW tA (d 3) (hs 3) ++ (stW tA a s))))))) (c_X1_copyFrom l D tA (d 2) (hs 2) a s (hh 2) hw) cd_X1_copyFrom wm_X0_29 22 rfl rfl rfl [22, 23, 24, 25, 26, 27, 28, 29, 30, 31, 42, 43, 44, 45, 46, 47, 48, 49, 50, 51] rfl rfl [0, 1, 2, 3, 4, 5, 6, 7, 8, 9, 10, 11, 12, 13, 14, 15, 16, 17, 18, 19, 20, 21, 32, 33, 34, 35, 36, 37, 38, 39, 40, 41] rfl rfl (fst_app (st_fst.trans st_fst.symm) rfl) [20, 21, 22, 23, 24, 25, 26, 27, 28, 29, 30, 31, 32, 33, 34, 35, 36, 37, 38, 39, 40, 41, 0, 1, 2, 3, 4, 5, 6, 7, 8, 9, 42, 43, 44, 45, 46, 47, 48, 49, 50, 51, 10, 11, 12, 13, 14, 15, 16, 17, 18, 19] rfl rfl ⟨Nat.le_of_ble_eq_true rfl, Nat.le_of_ble_eq_true rfl⟩ ⟨Nat.zero_le _, Nat.zero_le _⟩ rfl (Nat.le_of_ble_eq_true rfl) dX0_push_16 ?_
  refine j_aload_n (pc := 19) X dX0_push_19 rfl (q := 1) rfl ?_
  refine j_aload_n (pc := 20) X dX0_push_20 rfl (q := 1) rfl ?_
  refine j_get (pc := 21) X (C := RX0) (T := TX0) (N := 3) wz_X0 0 rfl rfl 1 (by decide) wf_X0_22 rfl dX0_push_21 ?_
  refine j_iconst (pc := 24) X (v := (nI 1)) dX0_push_24 (by decide) ?_
  refine j_iadd (pc := 25) X (v := (nI 3)) dX0_push_25 (nI_add _ _) ?_
  refine j_iconst (pc := 26) X (v := (nI 4)) dX0_push_26 (by decide) ?_
  refine j_irem (pc := 27) X (v := (nI 3)) dX0_push_27 (by decide +kernel) (by decide +kernel) ?_
  refine j_put (pc := 28) X (C := RX0) (T := TX0) (N := 3) wz_X0 tyX0 tyX0_ok nmX0 0 rfl rfl 1 (by decide) wf_X0_22 rfl rfl rfl (Nat.le_of_ble_eq_true rfl) (w' := ([(h 0, .inr (0, [.ref (h 1), .int (nI 3), .int (nI sz)])), (h 1, .inl (tA 2, 4, .inr (.inr (.inr (.inr (fun i => some (d i 0)))))))] ++ (stW tA (d 0) (hs 0) ++ (stW tA (d 1) (hs 1) ++ (stW tA (d 2) s ++ (stW tA (d 3) (hs 3) ++ (stW tA a s))))))) rfl dX0_push_28 ?_
  refine j_aload_n (pc := 31) X dX0_push_31 rfl (q := 1) rfl ?_
  refine j_aload_n (pc := 32) X dX0_push_32 rfl (q := 1) rfl ?_
  refine j_get (pc := 33) X (C := RX0) (T := TX0) (N := 3) wz_X0 0 rfl rfl 2 (by decide) wf_X0_18 rfl dX0_push_33 ?_
  refine j_iconst (pc := 36) X (v := (nI 1)) dX0_push_36 (by decide) ?_
  refine j_iadd (pc := 37) X (v := (nI (sz + 1))) dX0_push_37 (nI_add _ _) ?_
  refine j_iconst (pc := 38) X (v := (nI 4)) dX0_push_38 (by decide) ?_
  refine j_mmin (pc := 39) X wm_X0_33 (Nat.le_of_ble_eq_true rfl) (Nat.le_of_ble_eq_true rfl) ⟨Nat.zero_le _, Nat.zero_le _⟩ (v := (nI (min (sz + 1) 4))) (nI_min (by omega) (by omega)) dX0_push_39 ?_
  refine j_put (pc := 42) X (C := RX0) (T := TX0) (N := 3) wz_X0 tyX0 tyX0_ok nmX0 0 rfl rfl 2 (by decide) wf_X0_18 rfl rfl rfl (Nat.le_of_ble_eq_true rfl) (w' := ([(h 0, .inr (0, [.ref (h 1), .int (nI 3), .int (nI (min (sz + 1) 4))])), (h 1, .inl (tA 2, 4, .inr (.inr (.inr (.inr (fun i => some (d i 0)))))))] ++ (stW tA (d 0) (hs 0) ++ (stW tA (d 1) (hs 1) ++ (stW tA (d 2) s ++ (stW tA (d 3) (hs 3) ++ (stW tA a s))))))) rfl dX0_push_42 ?_
  exact j_endV (pc := 45) E dX0_push_45 rfl
set_option maxHeartbeats 4000000 in
set_option maxRecDepth 100000 in
theorem c_X0_popInto_2 (l : Launch) (D : va_G) (tA : Nat → ClassId) (h : Nat → Nat) (d : Nat → Nat → Nat) (hs : Nat → Sg) (sz : Nat) (a : Nat → Nat) (s : Sg) (hsz : sz ≤ 4) (h0 : 1 ≤ sz) (hh : ∀ i, Wf (hs i)) (hw : Wf s) : Kx l D tA yX0_popInto cX0_popInto 4 none 3 60 [.ref (h 0), .ref (a 0)] ([(h 0, .inr (0, [.ref (h 1), .int (nI 2), .int (nI sz)])), (h 1, .inl (tA 2, 4, .inr (.inr (.inr (.inr (fun i => some (d i 0)))))))] ++ (stW tA (d 0) (hs 0) ++ (stW tA (d 1) (hs 1) ++ (stW tA (d 2) (hs 2) ++ (stW tA (d 3) (hs 3) ++ (stW tA a s)))))) none ([(h 0, .inr (0, [.ref (h 1), .int (nI 1), .int (nI (sz - 1))])), (h 1, .inl (tA 2, 4, .inr (.inr (.inr (.inr (fun i => some (d i 0)))))))] ++ (stW tA (d 0) (hs 0) ++ (stW tA (d 1) (hs 1) ++ (stW tA (d 2) (hs 2) ++ (stW tA (d 3) (hs 3) ++ (stW tA a (hs 1))))))) := by
  refine kx_void rfl (Nat.le_of_ble_eq_true rfl) (fun G X E => ?_)
  show J l D G 0 0 ([(h 0, .inr (0, [.ref (h 1), .int (nI 2), .int (nI sz)])), (h 1, .inl (tA 2, 4, .inr (.inr (.inr (.inr (fun i => some (d i 0)))))))] ++ (stW tA (d 0) (hs 0) ++ (stW tA (d 1) (hs 1) ++ (stW tA (d 2) (hs 2) ++ (stW tA (d 3) (hs 3) ++ (stW tA a s)))))) [(0, .ref (h 0)), (1, .ref (a 0))] 0 []
  refine j_aload_n (pc := 0) X dX0_popInto_0 rfl (q := 0) rfl ?_
  refine j_get (pc := 1) X (C := RX0) (T := TX0) (N := 3) wz_X0 0 rfl rfl 1 (by decide) wf_X0_22 rfl dX0_popInto_1 ?_
  refine j_iconst (pc := 4) X (v := (nI 4)) dX0_popInto_4 (by decide) ?_
  refine j_iadd (pc := 5) X (v := (nI 6)) dX0_popInto_5 (nI_add _ _) ?_
  refine j_iconst (pc := 6) X (v := (nI 1)) dX0_popInto_6 (by decide) ?_
  refine j_isub (pc := 7) X (v := (nI 5)) dX0_popInto_7 (pk_sub (by omega)) ?_
  refine j_iconst (pc := 8) X (v := (nI 4)) dX0_popInto_8 (by decide) ?_
  refine j_irem (pc := 9) X (v := (nI 1)) dX0_popInto_9 (by decide +kernel) (by decide +kernel) ?_
  refine j_istore_n (pc := 10) X (lv' := [(2, .int (nI 1)), (0, .ref (h 0)), (1, .ref (a 0))]) dX0_popInto_10 rfl (by decide) rfl ?_
  refine j_aload_n (pc := 11) X dX0_popInto_11 rfl (q := 1) rfl ?_
  refine j_iload_n (pc := 12) X dX0_popInto_12 rfl (q := 0) rfl ?_
  refine j_callVR (pc := 13) X (st := [])  (c_X0_stateAt l D tA h d 2 sz 1 (by omega)) cd_X0_stateAt wm_X0_25 0 rfl rfl rfl [0, 1] rfl rfl ⟨Nat.le_of_ble_eq_true rfl, Nat.le_of_ble_eq_true rfl⟩ ⟨Nat.zero_le _, Nat.zero_le _⟩ rfl (Nat.le_of_ble_eq_true rfl) dX0_popInto_13 ?_
  refine j_astore_n (pc := 16) X (lv' := [(3, .ref ((d 1) 0)), (2, .int (nI 1)), (0, .ref (h 0)), (1, .ref (a 0))]) dX0_popInto_16 rfl (by decide) rfl ?_
  refine j_aload_n (pc := 17) X dX0_popInto_17 rfl (q := 2) rfl ?_
  refine j_get (pc := 18) X (C := RX0) (T := TX0) (N := 3) wz_X0 0 rfl rfl 2 (by decide) wf_X0_18 rfl dX0_popInto_18 ?_
  refine j_if_eq_f (pc := 21) X (tgt := 28) dX0_popInto_21 (by decide) (nI_ne0 (by omega) (by omega)) ?_
  refine j_aload_n (pc := 24) X dX0_popInto_24 rfl (q := 0) rfl ?_
  refine j_ifnonnull (pc := 25) X (tgt := 29) dX0_popInto_25 (by decide) ?_
  refine j_aload_n (pc := 29) X dX0_popInto_29 rfl (q := 3) rfl ?_
  refine j_aload_n (pc := 30) X dX0_popInto_30 rfl (q := 0) rfl ?_
  refine j_callVB (pc := 31) X (st := []) (wr := ([(h 0, .inr (0, [.ref (h 1), .int (nI 2), .int (nI sz)])), (h 1, .inl (tA 2, 4, .inr (.inr (.inr (.inr (fun i => some (d i 0)))))))] ++ (stW tA (d 0) (hs 0) ++ (stW tA (d 2) (hs 2) ++ (stW tA (d 3) (hs 3)))))) (w' := ([(h 0, .inr (0, [.ref (h 1), .int (nI 2), .int (nI sz)])), (h 1, .inl (tA 2, 4, .inr (.inr (.inr (.inr (fun i => some (d i 0)))))))] ++ (stW tA (d 0) (hs 0) ++ (stW tA (d 1) (hs 1) ++ (stW tA (d 2) (hs 2) ++ (stW tA (d 3) (hs 3) ++ (stW tA a (hs 1)))))))) (c_X1_copyFrom l D tA a s (d 1) (hs 1) hw (hh 1)) cd_X1_copyFrom wm_X0_29 42 rfl rfl rfl [42, 43, 44, 45, 46, 47, 48, 49, 50, 51, 12, 13, 14, 15, 16, 17, 18, 19, 20, 21] rfl rfl [0, 1, 2, 3, 4, 5, 6, 7, 8, 9, 10, 11, 22, 23, 24, 25, 26, 27, 28, 29, 30, 31, 32, 33, 34, 35, 36, 37, 38, 39, 40, 41] rfl rfl (fst_app (st_fst.trans st_fst.symm) rfl) [20, 21, 22, 23, 24, 25, 26, 27, 28, 29, 30, 31, 10, 11, 12, 13, 14, 15, 16, 17, 18, 19, 32, 33, 34, 35, 36, 37, 38, 39, 40, 41, 42, 43, 44, 45, 46, 47, 48, 49, 50, 51, 0, 1, 2, 3, 4, 5, 6, 7, 8, 9] rfl rfl ⟨Nat.le_of_ble_eq_true rfl, Nat.le_of_ble_eq_true rfl⟩ ⟨Nat.zero_le _, Nat.zero_le _⟩ rfl (Nat.le_of_ble_eq_true rfl) dX0_popInto_31 ?_
  refine j_aload_n (pc := 34) X dX0_popInto_34 rfl (q := 2) rfl ?_
  refine j_iload_n (pc := 35) X dX0_popInto_35 rfl (q := 1) rfl ?_
  refine j_put (pc := 36) X (C := RX0) (T := TX0) (N := 3) wz_X0 tyX0 tyX0_ok nmX0 0 rfl rfl 1 (by decide) wf_X0_22 rfl rfl rfl (Nat.le_of_ble_eq_true rfl) (w' := ([(h 0, .inr (0, [.ref (h 1), .int (nI 1), .int (nI sz)])), (h 1, .inl (tA 2, 4, .inr (.inr (.inr (.inr (fun i => some (d i 0)))))))] ++ (stW tA (d 0) (hs 0) ++ (stW tA (d 1) (hs 1) ++ (stW tA (d 2) (hs 2) ++ (stW tA (d 3) (hs 3) ++ (stW tA a (hs 1)))))))) rfl dX0_popInto_36 ?_
  refine j_aload_n (pc := 39) X dX0_popInto_39 rfl (q := 2) rfl ?_
  refine j_dup (pc := 40) X dX0_popInto_40 rfl ?_
  refine j_get (pc := 41) X (C := RX0) (T := TX0) (N := 3) wz_X0 0 rfl rfl 2 (by decide) wf_X0_18 rfl dX0_popInto_41 ?_
  refine j_iconst (pc := 44) X (v := (nI 1)) dX0_popInto_44 (by decide) ?_
  refine j_isub (pc := 45) X (v := (nI (sz - 1))) dX0_popInto_45 (pk_sub (by omega)) ?_
  refine j_put (pc := 46) X (C := RX0) (T := TX0) (N := 3) wz_X0 tyX0 tyX0_ok nmX0 0 rfl rfl 2 (by decide) wf_X0_18 rfl rfl rfl (Nat.le_of_ble_eq_true rfl) (w' := ([(h 0, .inr (0, [.ref (h 1), .int (nI 1), .int (nI (sz - 1))])), (h 1, .inl (tA 2, 4, .inr (.inr (.inr (.inr (fun i => some (d i 0)))))))] ++ (stW tA (d 0) (hs 0) ++ (stW tA (d 1) (hs 1) ++ (stW tA (d 2) (hs 2) ++ (stW tA (d 3) (hs 3) ++ (stW tA a (hs 1)))))))) rfl dX0_popInto_46 ?_
  exact j_endV (pc := 49) E dX0_popInto_49 rfl
set_option maxHeartbeats 4000000 in
set_option maxRecDepth 100000 in
theorem c_X0_push_3 (l : Launch) (D : va_G) (tA : Nat → ClassId) (h : Nat → Nat) (d : Nat → Nat → Nat) (hs : Nat → Sg) (sz : Nat) (a : Nat → Nat) (s : Sg) (hsz : sz ≤ 4) (hh : ∀ i, Wf (hs i)) (hw : Wf s) : Kx l D tA yX0_push cX0_push 3 none 3 60 [.ref (h 0), .ref (a 0)] ([(h 0, .inr (0, [.ref (h 1), .int (nI 3), .int (nI sz)])), (h 1, .inl (tA 2, 4, .inr (.inr (.inr (.inr (fun i => some (d i 0)))))))] ++ (stW tA (d 0) (hs 0) ++ (stW tA (d 1) (hs 1) ++ (stW tA (d 2) (hs 2) ++ (stW tA (d 3) (hs 3) ++ (stW tA a s)))))) none ([(h 0, .inr (0, [.ref (h 1), .int (nI 0), .int (nI (min (sz + 1) 4))])), (h 1, .inl (tA 2, 4, .inr (.inr (.inr (.inr (fun i => some (d i 0)))))))] ++ (stW tA (d 0) (hs 0) ++ (stW tA (d 1) (hs 1) ++ (stW tA (d 2) (hs 2) ++ (stW tA (d 3) s ++ (stW tA a s)))))) := by
  refine kx_void rfl (Nat.le_of_ble_eq_true rfl) (fun G X E => ?_)
  show J l D G 0 0 ([(h 0, .inr (0, [.ref (h 1), .int (nI 3), .int (nI sz)])), (h 1, .inl (tA 2, 4, .inr (.inr (.inr (.inr (fun i => some (d i 0)))))))] ++ (stW tA (d 0) (hs 0) ++ (stW tA (d 1) (hs 1) ++ (stW tA (d 2) (hs 2) ++ (stW tA (d 3) (hs 3) ++ (stW tA a s)))))) [(0, .ref (h 0)), (1, .ref (a 0))] 0 []
  refine j_aload_n (pc := 0) X dX0_push_0 rfl (q := 0) rfl ?_
  refine j_aload_n (pc := 1) X dX0_push_1 rfl (q := 0) rfl ?_
  refine j_get (pc := 2) X (C := RX0) (T := TX0) (N := 3) wz_X0 0 rfl rfl 1 (by decide) wf_X0_22 rfl dX0_push_2 ?_
  refine j_callVR (pc := 5) X (st := [])  (c_X0_stateAt l D tA h d 3 sz 3 (by omega)) cd_X0_stateAt wm_X0_25 0 rfl rfl rfl [0, 1] rfl rfl ⟨Nat.le_of_ble_eq_true rfl, Nat.le_of_ble_eq_true rfl⟩ ⟨Nat.zero_le _, Nat.zero_le _⟩ rfl (Nat.le_of_ble_eq_true rfl) dX0_push_5 ?_
  refine j_astore_n (pc := 8) X (lv' := [(2, .ref ((d 3) 0)), (0, .ref (h 0)), (1, .ref (a 0))]) dX0_push_8 rfl (by decide) rfl ?_
  refine j_aload_n (pc := 9) X dX0_push_9 rfl (q := 0) rfl ?_
  refine j_ifnonnull (pc := 10) X (tgt := 14) dX0_push_10 (by decide) ?_
  refine j_aload_n (pc := 14) X dX0_push_14 rfl (q := 0) rfl ?_
  refine j_aload_n (pc := 15) X dX0_push_15 rfl (q := 2) rfl ?_
  refine j_callVB (pc := 16) X (st := []) (wr := ([(h 0, .inr (0, [.ref (h 1), .int (nI 3), .int (nI sz)])), (h 1, .inl (tA 2, 4, .inr (.inr (.inr (.inr (fun i => some (d i 0)))))))] ++ (stW tA (d 0) (hs 0) ++ (stW tA (d 1) (hs 1) ++ (stW tA (d 2) (hs 2)))))) (w' := ([(h 0, .inr (0, [.ref (h 1), .int (nI 3), .int (nI sz)])), (h 1, .inl (tA 2, 4, .inr (.inr (.inr (.inr (fun i => some (d i 0)))))))] ++ (stW tA (d 0) (hs 0) ++ (stW tA (d 1) (hs 1) ++ (stW tA (d 2) (hs 2) ++ (stW tA (d 3) s ++ (stW tA a s))))))) (c_X1_copyFrom l D tA (d 3) (hs 3) a s (hh 3) hw) cd_X1_copyFrom wm_X0_29 32 rfl rfl rfl [32, 33, 34, 35, 36, 37, 38, 39, 40, 41, 42, 43, 44, 45, 46, 47, 48, 49, 50, 51] rfl rfl [0, 1, 2, 3, 4, 5, 6, 7, 8, 9, 10, 11, 12, 13, 14, 15, 16, 17, 18, 19, 20, 21, 22, 23, 24, 25, 26, 27, 28, 29, 30, 31] rfl rfl (fst_app (st_fst.trans st_fst.symm) rfl) [20, 21, 22, 23, 24, 25, 26, 27, 28, 29, 30, 31, 32, 33, 34, 35, 36, 37, 38, 39, 40, 41, 42, 43, 44, 45, 46, 47, 48, 49, 50, 51, 0, 1, 2, 3, 4, 5, 6, 7, 8, 9, 10, 11, 12, 13, 14, 15, 16, 17, 18, 19] rfl rfl ⟨Nat.le_of_ble_eq_true rfl, Nat.le_of_ble_eq_true rfl⟩ ⟨Nat.zero_le _, Nat.zero_le _⟩ rfl (Nat.le_of_ble_eq_true rfl) dX0_push_16 ?_
  refine j_aload_n (pc := 19) X dX0_push_19 rfl (q := 1) rfl ?_
  refine j_aload_n (pc := 20) X dX0_push_20 rfl (q := 1) rfl ?_
  refine j_get (pc := 21) X (C := RX0) (T := TX0) (N := 3) wz_X0 0 rfl rfl 1 (by decide) wf_X0_22 rfl dX0_push_21 ?_
  refine j_iconst (pc := 24) X (v := (nI 1)) dX0_push_24 (by decide) ?_
  refine j_iadd (pc := 25) X (v := (nI 4)) dX0_push_25 (nI_add _ _) ?_
  refine j_iconst (pc := 26) X (v := (nI 4)) dX0_push_26 (by decide) ?_
  refine j_irem (pc := 27) X (v := (nI 0)) dX0_push_27 (by decide +kernel) (by decide +kernel) ?_
  refine j_put (pc := 28) X (C := RX0) (T := TX0) (N := 3) wz_X0 tyX0 tyX0_ok nmX0 0 rfl rfl 1 (by decide) wf_X0_22 rfl rfl rfl (Nat.le_of_ble_eq_true rfl) (w' := ([(h 0, .inr (0, [.ref (h 1), .int (nI 0), .int (nI sz)])), (h 1, .inl (tA 2, 4, .inr (.inr (.inr (.inr (fun i => some (d i 0)))))))] ++ (stW tA (d 0) (hs 0) ++ (stW tA (d 1) (hs 1) ++ (stW tA (d 2) (hs 2) ++ (stW tA (d 3) s ++ (stW tA a s))))))) rfl dX0_push_28 ?_
  refine j_aload_n (pc := 31) X dX0_push_31 rfl (q := 1) rfl ?_
  refine j_aload_n (pc := 32) X dX0_push_32 rfl (q := 1) rfl ?_
  refine j_get (pc := 33) X (C := RX0) (T := TX0) (N := 3) wz_X0 0 rfl rfl 2 (by decide) wf_X0_18 rfl dX0_push_33 ?_
  refine j_iconst (pc := 36) X (v := (nI 1)) dX0_push_36 (by decide) ?_
  refine j_iadd (pc := 37) X (v := (nI (sz + 1))) dX0_push_37 (nI_add _ _) ?_
  refine j_iconst (pc := 38) X (v := (nI 4)) dX0_push_38 (by decide) ?_
  refine j_mmin (pc := 39) X wm_X0_33 (Nat.le_of_ble_eq_true rfl) (Nat.le_of_ble_eq_true rfl) ⟨Nat.zero_le _, Nat.zero_le _⟩ (v := (nI (min (sz + 1) 4))) (nI_min (by omega) (by omega)) dX0_push_39 ?_
  refine j_put (pc := 42) X (C := RX0) (T := TX0) (N := 3) wz_X0 tyX0 tyX0_ok nmX0 0 rfl rfl 2 (by decide) wf_X0_18 rfl rfl rfl (Nat.le_of_ble_eq_true rfl) (w' := ([(h 0, .inr (0, [.ref (h 1), .int (nI 0), .int (nI (min (sz + 1) 4))])), (h 1, .inl (tA 2, 4, .inr (.inr (.inr (.inr (fun i => some (d i 0)))))))] ++ (stW tA (d 0) (hs 0) ++ (stW tA (d 1) (hs 1) ++ (stW tA (d 2) (hs 2) ++ (stW tA (d 3) s ++ (stW tA a s))))))) rfl dX0_push_42 ?_
  exact j_endV (pc := 45) E dX0_push_45 rfl
set_option maxHeartbeats 4000000 in
set_option maxRecDepth 100000 in
theorem c_X0_popInto_3 (l : Launch) (D : va_G) (tA : Nat → ClassId) (h : Nat → Nat) (d : Nat → Nat → Nat) (hs : Nat → Sg) (sz : Nat) (a : Nat → Nat) (s : Sg) (hsz : sz ≤ 4) (h0 : 1 ≤ sz) (hh : ∀ i, Wf (hs i)) (hw : Wf s) : Kx l D tA yX0_popInto cX0_popInto 4 none 3 60 [.ref (h 0), .ref (a 0)] ([(h 0, .inr (0, [.ref (h 1), .int (nI 3), .int (nI sz)])), (h 1, .inl (tA 2, 4, .inr (.inr (.inr (.inr (fun i => some (d i 0)))))))] ++ (stW tA (d 0) (hs 0) ++ (stW tA (d 1) (hs 1) ++ (stW tA (d 2) (hs 2) ++ (stW tA (d 3) (hs 3) ++ (stW tA a s)))))) none ([(h 0, .inr (0, [.ref (h 1), .int (nI 2), .int (nI (sz - 1))])), (h 1, .inl (tA 2, 4, .inr (.inr (.inr (.inr (fun i => some (d i 0)))))))] ++ (stW tA (d 0) (hs 0) ++ (stW tA (d 1) (hs 1) ++ (stW tA (d 2) (hs 2) ++ (stW tA (d 3) (hs 3) ++ (stW tA a (hs 2))))))) := by
  refine kx_void rfl (Nat.le_of_ble_eq_true rfl) (fun G X E => ?_)
  show J l D G 0 0 ([(h 0, .inr (0, [.ref (h 1), .int (nI 3), .int (nI sz)])), (h 1, .inl (tA 2, 4, .inr (.inr (.inr (.inr (fun i => some (d i 0)))))))] ++ (stW tA (d 0) (hs 0) ++ (stW tA (d 1) (hs 1) ++ (stW tA (d 2) (hs 2) ++ (stW tA (d 3) (hs 3) ++ (stW tA a s)))))) [(0, .ref (h 0)), (1, .ref (a 0))] 0 []
  refine j_aload_n (pc := 0) X dX0_popInto_0 rfl (q := 0) rfl ?_
  refine j_get (pc := 1) X (C := RX0) (T := TX0) (N := 3) wz_X0 0 rfl rfl 1 (by decide) wf_X0_22 rfl dX0_popInto_1 ?_
  refine j_iconst (pc := 4) X (v := (nI 4)) dX0_popInto_4 (by decide) ?_
  refine j_iadd (pc := 5) X (v := (nI 7)) dX0_popInto_5 (nI_add _ _) ?_
  refine j_iconst (pc := 6) X (v := (nI 1)) dX0_popInto_6 (by decide) ?_
  refine j_isub (pc := 7) X (v := (nI 6)) dX0_popInto_7 (pk_sub (by omega)) ?_
  refine j_iconst (pc := 8) X (v := (nI 4)) dX0_popInto_8 (by decide) ?_
  refine j_irem (pc := 9) X (v := (nI 2)) dX0_popInto_9 (by decide +kernel) (by decide +kernel) ?_
  refine j_istore_n (pc := 10) X (lv' := [(2, .int (nI 2)), (0, .ref (h 0)), (1, .ref (a 0))]) dX0_popInto_10 rfl (by decide) rfl ?_
  refine j_aload_n (pc := 11) X dX0_popInto_11 rfl (q := 1) rfl ?_
  refine j_iload_n (pc := 12) X dX0_popInto_12 rfl (q := 0) rfl ?_
  refine j_callVR (pc := 13) X (st := [])  (c_X0_stateAt l D tA h d 3 sz 2 (by omega)) cd_X0_stateAt wm_X0_25 0 rfl rfl rfl [0, 1] rfl rfl ⟨Nat.le_of_ble_eq_true rfl, Nat.le_of_ble_eq_true rfl⟩ ⟨Nat.zero_le _, Nat.zero_le _⟩ rfl (Nat.le_of_ble_eq_true rfl) dX0_popInto_13 ?_
  refine j_astore_n (pc := 16) X (lv' := [(3, .ref ((d 2) 0)), (2, .int (nI 2)), (0, .ref (h 0)), (1, .ref (a 0))]) dX0_popInto_16 rfl (by decide) rfl ?_
  refine j_aload_n (pc := 17) X dX0_popInto_17 rfl (q := 2) rfl ?_
  refine j_get (pc := 18) X (C := RX0) (T := TX0) (N := 3) wz_X0 0 rfl rfl 2 (by decide) wf_X0_18 rfl dX0_popInto_18 ?_
  refine j_if_eq_f (pc := 21) X (tgt := 28) dX0_popInto_21 (by decide) (nI_ne0 (by omega) (by omega)) ?_
  refine j_aload_n (pc := 24) X dX0_popInto_24 rfl (q := 0) rfl ?_
  refine j_ifnonnull (pc := 25) X (tgt := 29) dX0_popInto_25 (by decide) ?_
  refine j_aload_n (pc := 29) X dX0_popInto_29 rfl (q := 3) rfl ?_
  refine j_aload_n (pc := 30) X dX0_popInto_30 rfl (q := 0) rfl ?_
  refine j_callVB (pc := 31) X (st := []) (wr := ([(h 0, .inr (0, [.ref (h 1), .int (nI 3), .int (nI sz)])), (h 1, .inl (tA 2, 4, .inr (.inr (.inr (.inr (fun i => some (d i 0)))))))] ++ (stW tA (d 0) (hs 0) ++ (stW tA (d 1) (hs 1) ++ (stW tA (d 3) (hs 3)))))) (w' := ([(h 0, .inr (0, [.ref (h 1), .int (nI 3), .int (nI sz)])), (h 1, .inl (tA 2, 4, .inr (.inr (.inr (.inr (fun i => some (d i 0)))))))] ++ (stW tA (d 0) (hs 0) ++ (stW tA (d 1) (hs 1) ++ (stW tA (d 2) (hs 2) ++ (stW tA (d 3) (hs 3) ++ (stW tA a (hs 2)))))))) (c_X1_copyFrom l D tA a s (d 2) (hs 2) hw (hh 2)) cd_X1_copyFrom wm_X0_29 42 rfl rfl rfl [42, 43, 44, 45, 46, 47, 48, 49, 50, 51, 22, 23, 24, 25, 26, 27, 28, 29, 30, 31] rfl rfl [0, 1, 2, 3, 4, 5, 6, 7, 8, 9, 10, 11, 12, 13, 14, 15, 16, 17, 18, 19, 20, 21, 32, 33, 34, 35, 36, 37, 38, 39, 40, 41] rfl rfl (fst_app (st_fst.trans st_fst.symm) rfl) [20, 21, 22, 23, 24, 25, 26, 27, 28, 29, 30, 31, 32, 33, 34, 35, 36, 37, 38, 39, 40, 41, 10, 11, 12, 13, 14, 15, 16, 17, 18, 19, 42, 43, 44, 45, 46, 47, 48, 49, 50, 51, 0, 1, 2, 3, 4, 5, 6, 7, 8, 9] rfl rfl ⟨Nat.le_of_ble_eq_true rfl, Nat.le_of_ble_eq_true rfl⟩ ⟨Nat.zero_le _, Nat.zero_le _⟩ rfl (Nat.le_of_ble_eq_true rfl) dX0_popInto_31 ?_
  refine j_aload_n (pc := 34) X dX0_popInto_34 rfl (q := 2) rfl ?_
  refine j_iload_n (pc := 35) X dX0_popInto_35 rfl (q := 1) rfl ?_
  refine j_put (pc := 36) X (C := RX0) (T := TX0) (N := 3) wz_X0 tyX0 tyX0_ok nmX0 0 rfl rfl 1 (by decide) wf_X0_22 rfl rfl rfl (Nat.le_of_ble_eq_true rfl) (w' := ([(h 0, .inr (0, [.ref (h 1), .int (nI 2), .int (nI sz)])), (h 1, .inl (tA 2, 4, .inr (.inr (.inr (.inr (fun i => some (d i 0)))))))] ++ (stW tA (d 0) (hs 0) ++ (stW tA (d 1) (hs 1) ++ (stW tA (d 2) (hs 2) ++ (stW tA (d 3) (hs 3) ++ (stW tA a (hs 2)))))))) rfl dX0_popInto_36 ?_
  refine j_aload_n (pc := 39) X dX0_popInto_39 rfl (q := 2) rfl ?_
  refine j_dup (pc := 40) X dX0_popInto_40 rfl ?_
  refine j_get (pc := 41) X (C := RX0) (T := TX0) (N := 3) wz_X0 0 rfl rfl 2 (by decide) wf_X0_18 rfl dX0_popInto_41 ?_
  refine j_iconst (pc := 44) X (v := (nI 1)) dX0_popInto_44 (by decide) ?_
  refine j_isub (pc := 45) X (v := (nI (sz - 1))) dX0_popInto_45 (pk_sub (by omega)) ?_
  refine j_put (pc := 46) X (C := RX0) (T := TX0) (N := 3) wz_X0 tyX0 tyX0_ok nmX0 0 rfl rfl 2 (by decide) wf_X0_18 rfl rfl rfl (Nat.le_of_ble_eq_true rfl) (w' := ([(h 0, .inr (0, [.ref (h 1), .int (nI 2), .int (nI (sz - 1))])), (h 1, .inl (tA 2, 4, .inr (.inr (.inr (.inr (fun i => some (d i 0)))))))] ++ (stW tA (d 0) (hs 0) ++ (stW tA (d 1) (hs 1) ++ (stW tA (d 2) (hs 2) ++ (stW tA (d 3) (hs 3) ++ (stW tA a (hs 2)))))))) rfl dX0_popInto_46 ?_
  exact j_endV (pc := 49) E dX0_popInto_49 rfl
theorem c_X0_push (l : Launch) (D : va_G) (tA : Nat → ClassId) (h : Nat → Nat) (d : Nat → Nat → Nat) (v : Hs) (a : Nat → Nat) (s : Sg) (hnx : v.2.1 < 4) (hsz : v.2.2 ≤ 4) (hh : ∀ i, Wf (v.1 i)) (hw : Wf s) : Kx l D tA yX0_push cX0_push 3 none 3 60 [.ref (h 0), .ref (a 0)] (hsW tA h d v ++ stW tA a s) none (hsW tA h d (hPush v s) ++ stW tA a s) := by
  obtain ⟨hs, nx, sz⟩ := v
  have hnx : nx < 4 := hnx
  rcases (show nx = 0 ∨ nx = 1 ∨ nx = 2 ∨ nx = 3 by omega) with rfl | rfl | rfl | rfl
  · rw [show hPush (hs, 0, sz) s = (va_up hs 0 s, 1, min (sz + 1) 4) by simp [hPush], hs_flat, hs_flat]
    exact c_X0_push_0 l D tA h d hs sz a s hsz hh hw
  · rw [show hPush (hs, 1, sz) s = (va_up hs 1 s, 2, min (sz + 1) 4) by simp [hPush], hs_flat, hs_flat]
    exact c_X0_push_1 l D tA h d hs sz a s hsz hh hw
  · rw [show hPush (hs, 2, sz) s = (va_up hs 2 s, 3, min (sz + 1) 4) by simp [hPush], hs_flat, hs_flat]
    exact c_X0_push_2 l D tA h d hs sz a s hsz hh hw
  · rw [show hPush (hs, 3, sz) s = (va_up hs 3 s, 0, min (sz + 1) 4) by simp [hPush], hs_flat, hs_flat]
    exact c_X0_push_3 l D tA h d hs sz a s hsz hh hw
theorem c_X0_popInto (l : Launch) (D : va_G) (tA : Nat → ClassId) (h : Nat → Nat) (d : Nat → Nat → Nat) (v : Hs) (a : Nat → Nat) (s : Sg) (hnx : v.2.1 < 4) (hsz : v.2.2 ≤ 4) (h0 : 1 ≤ v.2.2) (hh : ∀ i, Wf (v.1 i)) (hw : Wf s) : Kx l D tA yX0_popInto cX0_popInto 4 none 3 60 [.ref (h 0), .ref (a 0)] (hsW tA h d v ++ stW tA a s) none (hsW tA h d (hPop v) ++ stW tA a (v.1 (hLast v))) := by
  obtain ⟨hs, nx, sz⟩ := v
  have hnx : nx < 4 := hnx
  rcases (show nx = 0 ∨ nx = 1 ∨ nx = 2 ∨ nx = 3 by omega) with rfl | rfl | rfl | rfl
  · rw [show hPop (hs, 0, sz) = (hs, 3, sz - 1) by simp [hPop, hLast], show hLast (hs, 0, sz) = 3 by simp [hLast], hs_flat, hs_flat]
    exact c_X0_popInto_0 l D tA h d hs sz a s hsz h0 hh hw
  · rw [show hPop (hs, 1, sz) = (hs, 0, sz - 1) by simp [hPop, hLast], show hLast (hs, 1, sz) = 0 by simp [hLast], hs_flat, hs_flat]
    exact c_X0_popInto_1 l D tA h d hs sz a s hsz h0 hh hw
  · rw [show hPop (hs, 2, sz) = (hs, 1, sz - 1) by simp [hPop, hLast], show hLast (hs, 2, sz) = 1 by simp [hLast], hs_flat, hs_flat]
    exact c_X0_popInto_2 l D tA h d hs sz a s hsz h0 hh hw
  · rw [show hPop (hs, 3, sz) = (hs, 2, sz - 1) by simp [hPop, hLast], show hLast (hs, 3, sz) = 2 by simp [hLast], hs_flat, hs_flat]
    exact c_X0_popInto_3 l D tA h d hs sz a s hsz h0 hh hw
