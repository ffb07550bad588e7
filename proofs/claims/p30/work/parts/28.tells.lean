/-! what a read tells, place by place -/
theorem oC_0 (s : Sg) (z u : Nat) : oCount s z u (nI 0) = nI (sN s) := by
  unfold oCount
  rw [if_pos (by decide +kernel)]
theorem oC_1 (s : Sg) (z u : Nat) : oCount s z u (nI 1) = nI ((sM s).1) := by
  unfold oCount
  rw [if_neg (by decide +kernel), if_pos (by decide +kernel)]
theorem oC_2 (s : Sg) (z u : Nat) : oCount s z u (nI 2) = nI ((sP s).1) := by
  unfold oCount
  rw [if_neg (by decide +kernel), if_neg (by decide +kernel), if_pos (by decide +kernel)]
theorem oC_3 (s : Sg) (z u : Nat) : oCount s z u (nI 3) = nI ((sB s).1) := by
  unfold oCount
  rw [if_neg (by decide +kernel), if_neg (by decide +kernel), if_neg (by decide +kernel), if_pos (by decide +kernel)]
theorem oC_4 (s : Sg) (z u : Nat) : oCount s z u (nI 4) = nI (cT s 0) := by
  unfold oCount
  rw [if_neg (by decide +kernel), if_neg (by decide +kernel), if_neg (by decide +kernel), if_neg (by decide +kernel), if_pos (by decide +kernel)]
  rfl
theorem oC_5 (s : Sg) (z u : Nat) : oCount s z u (nI 5) = nI (cT s 1) := by
  unfold oCount
  rw [if_neg (by decide +kernel), if_neg (by decide +kernel), if_neg (by decide +kernel), if_neg (by decide +kernel), if_neg (by decide +kernel), if_pos (by decide +kernel)]
  rfl
theorem oC_6 (s : Sg) (z u : Nat) : oCount s z u (nI 6) = nI (cT s 2) := by
  unfold oCount
  rw [if_neg (by decide +kernel), if_neg (by decide +kernel), if_neg (by decide +kernel), if_neg (by decide +kernel), if_neg (by decide +kernel), if_neg (by decide +kernel), if_pos (by decide +kernel)]
  rfl
theorem oC_7 (s : Sg) (z u : Nat) : oCount s z u (nI 7) = nI (cT s 3) := by
  unfold oCount
  rw [if_neg (by decide +kernel), if_neg (by decide +kernel), if_neg (by decide +kernel), if_neg (by decide +kernel), if_neg (by decide +kernel), if_neg (by decide +kernel), if_neg (by decide +kernel), if_pos (by decide +kernel)]
  rfl
theorem oC_8 (s : Sg) (z u : Nat) : oCount s z u (nI 8) = nI ((sV s).1) := by
  unfold oCount
  rw [if_neg (by decide +kernel), if_neg (by decide +kernel), if_neg (by decide +kernel), if_neg (by decide +kernel), if_neg (by decide +kernel), if_neg (by decide +kernel), if_neg (by decide +kernel), if_neg (by decide +kernel), if_pos (by decide +kernel)]
theorem oC_9 (s : Sg) (z u : Nat) : oCount s z u (nI 9) = nI (sD s) := by
  unfold oCount
  rw [if_neg (by decide +kernel), if_neg (by decide +kernel), if_neg (by decide +kernel), if_neg (by decide +kernel), if_neg (by decide +kernel), if_neg (by decide +kernel), if_neg (by decide +kernel), if_neg (by decide +kernel), if_neg (by decide +kernel), if_pos (by decide +kernel)]
theorem oC_10 (s : Sg) (z u : Nat) : oCount s z u (nI 10) = nI (sF s) := by
  unfold oCount
  rw [if_neg (by decide +kernel), if_neg (by decide +kernel), if_neg (by decide +kernel), if_neg (by decide +kernel), if_neg (by decide +kernel), if_neg (by decide +kernel), if_neg (by decide +kernel), if_neg (by decide +kernel), if_neg (by decide +kernel), if_neg (by decide +kernel), if_pos (by decide +kernel)]
theorem oC_11 (s : Sg) (z u : Nat) : oCount s z u (nI 11) = nI (sPaid s) := by
  unfold oCount
  rw [if_neg (by decide +kernel), if_neg (by decide +kernel), if_neg (by decide +kernel), if_neg (by decide +kernel), if_neg (by decide +kernel), if_neg (by decide +kernel), if_neg (by decide +kernel), if_neg (by decide +kernel), if_neg (by decide +kernel), if_neg (by decide +kernel), if_neg (by decide +kernel), if_pos (by decide +kernel)]
  rfl
theorem oC_12 (s : Sg) (z u : Nat) : oCount s z u (nI 12) = nI (sCaus s) := by
  unfold oCount
  rw [if_neg (by decide +kernel), if_neg (by decide +kernel), if_neg (by decide +kernel), if_neg (by decide +kernel), if_neg (by decide +kernel), if_neg (by decide +kernel), if_neg (by decide +kernel), if_neg (by decide +kernel), if_neg (by decide +kernel), if_neg (by decide +kernel), if_neg (by decide +kernel), if_neg (by decide +kernel), if_pos (by decide +kernel)]
  rfl
theorem oC_13 (s : Sg) (z u : Nat) : oCount s z u (nI 13) = nI (sX s) := by
  unfold oCount
  rw [if_neg (by decide +kernel), if_neg (by decide +kernel), if_neg (by decide +kernel), if_neg (by decide +kernel), if_neg (by decide +kernel), if_neg (by decide +kernel), if_neg (by decide +kernel), if_neg (by decide +kernel), if_neg (by decide +kernel), if_neg (by decide +kernel), if_neg (by decide +kernel), if_neg (by decide +kernel), if_neg (by decide +kernel), if_pos (by decide +kernel)]
theorem oC_14 (s : Sg) (z u : Nat) : oCount s z u (nI 14) = nI (sBlk s) := by
  unfold oCount
  rw [if_neg (by decide +kernel), if_neg (by decide +kernel), if_neg (by decide +kernel), if_neg (by decide +kernel), if_neg (by decide +kernel), if_neg (by decide +kernel), if_neg (by decide +kernel), if_neg (by decide +kernel), if_neg (by decide +kernel), if_neg (by decide +kernel), if_neg (by decide +kernel), if_neg (by decide +kernel), if_neg (by decide +kernel), if_neg (by decide +kernel), if_pos (by decide +kernel)]
  rfl
theorem oC_15 (s : Sg) (z u : Nat) : oCount s z u (nI 15) = nI (z) := by
  unfold oCount
  rw [if_neg (by decide +kernel), if_neg (by decide +kernel), if_neg (by decide +kernel), if_neg (by decide +kernel), if_neg (by decide +kernel), if_neg (by decide +kernel), if_neg (by decide +kernel), if_neg (by decide +kernel), if_neg (by decide +kernel), if_neg (by decide +kernel), if_neg (by decide +kernel), if_neg (by decide +kernel), if_neg (by decide +kernel), if_neg (by decide +kernel), if_neg (by decide +kernel), if_pos (by decide +kernel)]
theorem oC_16 (s : Sg) (z u : Nat) : oCount s z u (nI 16) = nI (u) := by
  unfold oCount
  rw [if_neg (by decide +kernel), if_neg (by decide +kernel), if_neg (by decide +kernel), if_neg (by decide +kernel), if_neg (by decide +kernel), if_neg (by decide +kernel), if_neg (by decide +kernel), if_neg (by decide +kernel), if_neg (by decide +kernel), if_neg (by decide +kernel), if_neg (by decide +kernel), if_neg (by decide +kernel), if_neg (by decide +kernel), if_neg (by decide +kernel), if_neg (by decide +kernel), if_neg (by decide +kernel), if_pos (by decide +kernel)]
theorem oC_x (s : Sg) (z u : Nat) : oCount s z u (nI 17) = (-2) := by
  unfold oCount
  rw [if_neg (by decide +kernel), if_neg (by decide +kernel), if_neg (by decide +kernel), if_neg (by decide +kernel), if_neg (by decide +kernel), if_neg (by decide +kernel), if_neg (by decide +kernel), if_neg (by decide +kernel), if_neg (by decide +kernel), if_neg (by decide +kernel), if_neg (by decide +kernel), if_neg (by decide +kernel), if_neg (by decide +kernel), if_neg (by decide +kernel), if_neg (by decide +kernel), if_neg (by decide +kernel), if_neg (by decide +kernel)]
theorem oC_i (s : Sg) (z u : Nat) {k : Nat} (hk : k < 15) : oCount s z u (nI k) = oCount s 0 0 (nI k) := by
  have e := nI_toInt (show k < 2 ^ 31 by omega)
  unfold oCount
  rw [e]
  rw [if_neg (show ¬ ((k : Nat) : Int) = 15 by omega), if_neg (show ¬ ((k : Nat) : Int) = 16 by omega), if_neg (show ¬ ((k : Nat) : Int) = 15 by omega), if_neg (show ¬ ((k : Nat) : Int) = 16 by omega)]
section
variable {s : Sg}
theorem oM_0 (hw : Wf s) {m : Nat} (hm : m < (sM s).1) : oMachine s (nI m) (nI 0) = nI (tGet 3 (sM s) m 0) := by
  have hn := hw.n
  unfold oMachine
  rw [if_pos (inR_nI hm (by omega)), tn_nI (show m < 2 ^ 31 by omega), if_pos (by decide +kernel)]
theorem oM_1 (hw : Wf s) {m : Nat} (hm : m < (sM s).1) : oMachine s (nI m) (nI 1) = nI (tGet 3 (sM s) m 1) := by
  have hn := hw.n
  unfold oMachine
  rw [if_pos (inR_nI hm (by omega)), tn_nI (show m < 2 ^ 31 by omega), if_neg (by decide +kernel), if_pos (by decide +kernel)]
theorem oM_2 (hw : Wf s) {m : Nat} (hm : m < (sM s).1) : oMachine s (nI m) (nI 2) = nI (cB s 1 m 0) := by
  have hn := hw.n
  unfold oMachine
  rw [if_pos (inR_nI hm (by omega)), tn_nI (show m < 2 ^ 31 by omega), if_neg (by decide +kernel), if_neg (by decide +kernel), if_pos (by decide +kernel)]
theorem oM_3 (hw : Wf s) {m : Nat} (hm : m < (sM s).1) : oMachine s (nI m) (nI 3) = nI (cV s 1 m) := by
  have hn := hw.n
  unfold oMachine
  rw [if_pos (inR_nI hm (by omega)), tn_nI (show m < 2 ^ 31 by omega), if_neg (by decide +kernel), if_neg (by decide +kernel), if_neg (by decide +kernel), if_pos (by decide +kernel)]
theorem oM_4 (hw : Wf s) {m : Nat} (hm : m < (sM s).1) : oMachine s (nI m) (nI 4) = nI (cV s 2 m) := by
  have hn := hw.n
  unfold oMachine
  rw [if_pos (inR_nI hm (by omega)), tn_nI (show m < 2 ^ 31 by omega), if_neg (by decide +kernel), if_neg (by decide +kernel), if_neg (by decide +kernel), if_neg (by decide +kernel), if_pos (by decide +kernel)]
theorem oM_5 (hw : Wf s) {m : Nat} (hm : m < (sM s).1) : oMachine s (nI m) (nI 5) = nI (tGet 3 (sM s) m 2) := by
  have hn := hw.n
  unfold oMachine
  rw [if_pos (inR_nI hm (by omega)), tn_nI (show m < 2 ^ 31 by omega), if_neg (by decide +kernel), if_neg (by decide +kernel), if_neg (by decide +kernel), if_neg (by decide +kernel), if_neg (by decide +kernel), if_pos (by decide +kernel)]
theorem oM_6 (hw : Wf s) {m : Nat} (hm : m < (sM s).1) : oMachine s (nI m) (nI 6) = nI (cB s 1 m 1) := by
  have hn := hw.n
  unfold oMachine
  rw [if_pos (inR_nI hm (by omega)), tn_nI (show m < 2 ^ 31 by omega), if_neg (by decide +kernel), if_neg (by decide +kernel), if_neg (by decide +kernel), if_neg (by decide +kernel), if_neg (by decide +kernel), if_neg (by decide +kernel), if_pos (by decide +kernel)]
theorem oP_0 (hw : Wf s) {p : Nat} (hp : p < (sP s).1) : oMember s (nI p) (nI 0) = nI (tGet 2 (sP s) p 0) := by
  have hn := hw.n
  unfold oMember
  rw [if_pos (inR_nI hp (by omega)), tn_nI (show p < 2 ^ 31 by omega), if_pos (by decide +kernel)]
theorem oP_1 (hw : Wf s) {p : Nat} (hp : p < (sP s).1) : oMember s (nI p) (nI 1) = nI (cB s 0 p 0) := by
  have hn := hw.n
  unfold oMember
  rw [if_pos (inR_nI hp (by omega)), tn_nI (show p < 2 ^ 31 by omega), if_neg (by decide +kernel), if_pos (by decide +kernel)]
theorem oP_2 (hw : Wf s) {p : Nat} (hp : p < (sP s).1) : oMember s (nI p) (nI 2) = nI (cB s 0 p 1) := by
  have hn := hw.n
  unfold oMember
  rw [if_pos (inR_nI hp (by omega)), tn_nI (show p < 2 ^ 31 by omega), if_neg (by decide +kernel), if_neg (by decide +kernel), if_pos (by decide +kernel)]
theorem oP_3 (hw : Wf s) {p : Nat} (hp : p < (sP s).1) : oMember s (nI p) (nI 3) = nI (cB s 0 p 2) := by
  have hn := hw.n
  unfold oMember
  rw [if_pos (inR_nI hp (by omega)), tn_nI (show p < 2 ^ 31 by omega), if_neg (by decide +kernel), if_neg (by decide +kernel), if_neg (by decide +kernel), if_pos (by decide +kernel)]
theorem oP_4 (hw : Wf s) {p : Nat} (hp : p < (sP s).1) : oMember s (nI p) (nI 4) = nI (cB s 0 p 3) := by
  have hn := hw.n
  unfold oMember
  rw [if_pos (inR_nI hp (by omega)), tn_nI (show p < 2 ^ 31 by omega), if_neg (by decide +kernel), if_neg (by decide +kernel), if_neg (by decide +kernel), if_neg (by decide +kernel), if_pos (by decide +kernel)]
theorem oP_5 (hw : Wf s) {p : Nat} (hp : p < (sP s).1) : oMember s (nI p) (nI 5) = nI (tGet 2 (sP s) p 1) := by
  have hn := hw.n
  unfold oMember
  rw [if_pos (inR_nI hp (by omega)), tn_nI (show p < 2 ^ 31 by omega), if_neg (by decide +kernel), if_neg (by decide +kernel), if_neg (by decide +kernel), if_neg (by decide +kernel), if_neg (by decide +kernel), if_pos (by decide +kernel)]
theorem oP_6 (hw : Wf s) {p : Nat} (hp : p < (sP s).1) : oMember s (nI p) (nI 6) = nI (cV s 0 p) := by
  have hn := hw.n
  unfold oMember
  rw [if_pos (inR_nI hp (by omega)), tn_nI (show p < 2 ^ 31 by omega), if_neg (by decide +kernel), if_neg (by decide +kernel), if_neg (by decide +kernel), if_neg (by decide +kernel), if_neg (by decide +kernel), if_neg (by decide +kernel), if_pos (by decide +kernel)]
theorem oP_s (hw : Wf s) {p i : Nat} (hp : p < (sP s).1) (hi : i < 4) : oMember s (nI p) (nI (1 + i)) = nI (cB s 0 p i) := by
  rcases (show i = 0 ∨ i = 1 ∨ i = 2 ∨ i = 3 by omega) with rfl | rfl | rfl | rfl
  · exact oP_1 hw hp
  · exact oP_2 hw hp
  · exact oP_3 hw hp
  · exact oP_4 hw hp
theorem oB_c (hw : Wf s) {b c : Nat} (hb : b < (sB s).1) (hc : c < 8) : oBooking s (nI b) (nI c) = nI (tGet 8 (sB s) b c) := by
  have hn := hw.n
  have e := nI_toInt (show c < 2 ^ 31 by omega)
  unfold oBooking
  rw [if_pos (inR_nI hb (by omega)), tn_nI (show b < 2 ^ 31 by omega), tn_nI (show c < 2 ^ 31 by omega), if_neg (by rw [e]; omega), if_pos]
  unfold isW
  rw [e, nI_toInt (show 0 < 2 ^ 31 by decide), nI_toInt (show 7 < 2 ^ 31 by decide)]
  exact decide_eq_true (by omega)
theorem oB_8 (hw : Wf s) {b : Nat} (hb : b < (sB s).1) : oBooking s (nI b) (nI 8) = nI (limO (sB s) b) := by
  have hn := hw.n
  unfold oBooking
  rw [if_pos (inR_nI hb (by omega)), tn_nI (show b < 2 ^ 31 by omega), if_pos (by decide +kernel)]
theorem oV_c (hw : Wf s) {v c : Nat} (hv : v < (sV s).1) (hc : c < 5) : oMove s (nI v) (nI c) = nI (tGet 5 (sV s) v c) := by
  have hn := hw.n
  have e := nI_toInt (show c < 2 ^ 31 by omega)
  unfold oMove
  rw [if_pos (inR_nI hv (by omega)), tn_nI (show v < 2 ^ 31 by omega), tn_nI (show c < 2 ^ 31 by omega), if_pos]
  unfold isW
  rw [e, nI_toInt (show 0 < 2 ^ 31 by decide), nI_toInt (show 4 < 2 ^ 31 by decide)]
  exact decide_eq_true (by omega)
theorem oA_t (hw : Wf s) {m h : Nat} (hm : m < (sM s).1) (hh : h < 200) : oBookedAt s (nI m) (nI h) = rO (bkF (sB s) m h) := by
  have hn := hw.n
  unfold oBookedAt
  rw [if_pos ⟨inR_nI hm (by omega), inR_nI hh (by decide)⟩, tn_nI (show m < 2 ^ 31 by omega), tn_nI (show h < 2 ^ 31 by omega)]
theorem isRad_nI {r : Nat} (h : 2 ≤ r ∧ r ≤ 60) : isRad (nI r) = true := by
  unfold isRad
  rw [nI_toInt (by omega)]
  exact decide_eq_true (by omega)
theorem isLft_nI {ld r : Nat} (h : 1 ≤ ld ∧ ld ≤ 2000) (h2 : 2 ≤ r ∧ r ≤ 60) : isLft (nI ld) (nI r) = true := by
  unfold isLft
  rw [nI_toInt (by omega), nI_toInt (by omega)]
  exact decide_eq_true (by omega)
theorem toCome_nI {t : Nat} (h : sN s ≤ t) (h2 : t < 200) : toCome s (nI t) = true := by
  unfold toCome
  rw [nI_toInt (by omega)]
  exact decide_eq_true (by omega)
theorem oBr_t (hw : Wf s) {m r : Nat} (hm : m < (sM s).1) (hr : 2 ≤ r ∧ r ≤ 60) : oBears s (nI m) (nI r) = nI (brn (sM s) m r) := by
  have hn := hw.n
  unfold oBears
  rw [if_pos (inR_nI hm (by omega)), if_pos (isRad_nI hr), tn_nI (show m < 2 ^ 31 by omega), tn_nI (show r < 2 ^ 31 by omega)]
theorem oLm_t {ld r : Nat} (h : 1 ≤ ld ∧ ld ≤ 2000) (h2 : 2 ≤ r ∧ r ≤ 60) : oLimit (nI ld) (nI r) = nI (limN ld r) := by
  unfold oLimit
  rw [if_pos (isLft_nI h h2), tn_nI (show ld < 2 ^ 31 by omega), tn_nI (show r < 2 ^ 31 by omega)]
theorem oWd_t {h : Nat} (hh : h < 200) : oWind s (nI h) = nI (sW s h) := by
  unfold oWind
  rw [if_pos (inR_nI hh (by decide)), tn_nI (show h < 2 ^ 31 by omega)]
theorem oMf_t {t ld r : Nat} (h : sN s ≤ t) (h2 : t < 200) (h3 : 1 ≤ ld ∧ ld ≤ 2000) (h4 : 2 ≤ r ∧ r ≤ 60) : oMachineFor s (nI t) (nI ld) (nI r) = rO (fndN (fun m => canT s m t ld r) (sM s).1) := by
  unfold oMachineFor
  rw [if_pos (toCome_nI h h2), if_pos (isLft_nI h3 h4), tn_nI (show t < 2 ^ 31 by omega), tn_nI (show ld < 2 ^ 31 by omega), tn_nI (show r < 2 ^ 31 by omega)]
end
/-! a number below a bound, out of any -/
def lowN (v : Int32) (n : Nat) : Nat := (v &&& 2147483647).toNatClampNeg % n
theorem low_lt {v : Int32} {n : Nat} (h : 0 < n) : lowN v n < n := Nat.mod_lt _ h
theorem and_nI (v : Int32) : ∃ a : Nat, a < 2 ^ 31 ∧ v &&& 2147483647 = nI a := by
  have e := Jvm.Kit.i32_mask v 2147483647 (k := 31) (by decide) (by decide)
  have h0 : 0 ≤ (v &&& 2147483647).toInt := by rw [e]; exact Int.emod_nonneg _ (by decide)
  have h1 : (v &&& 2147483647).toInt < ((2 ^ 31 : Nat) : Int) := Int32.toInt_lt _
  exact i_in h0 h1
theorem cd_L_low : kCardS yL_low cL_low 2 (some .int) 2 := ⟨⟨wc_L_low, wi_L, by decide +kernel, by decide +kernel, rfl⟩, wt_L_low⟩
theorem c_L_low (l : Launch) (D : va_G) (tA : Nat → ClassId) (v : Int32) (n : Nat) (h0 : 0 < n) (hn : n < 2 ^ 31) : Kx l D tA yL_low cL_low 2 (some .int) 0 0 [.int v, .int (nI n)] ([] : va_W) (some (.int (nI (lowN v n)))) ([] : va_W) := by
  refine kx_int rfl (Nat.le_of_ble_eq_true rfl) (fun G X E => ?_)
  show J l D G 0 0 ([] : va_W) [(0, .int v), (1, .int (nI n))] 0 []
  obtain ⟨a, ha, e⟩ := and_nI v
  have el : lowN v n = a % n := by unfold lowN; rw [e, nI_clamp ha]
  refine j_iload_n (pc := 0) X dL_low_0 rfl (q := 0) rfl ?_
  refine j_ldc (pc := 1) X wq_L_7 dL_low_1 ?_
  refine j_iand (pc := 3) X (v := nI a) dL_low_3 e ?_
  refine j_iload_n (pc := 4) X dL_low_4 rfl (q := 1) rfl ?_
  refine j_irem (pc := 5) X (v := nI (a % n)) dL_low_5 (nI_ne0 h0 hn) (pk_rem ha h0 hn) ?_
  exact j_endI (pc := 6) E dL_low_6 (by rw [el]) rfl
/-! the script's reader: any number -/
def Kc (l : Launch) (D : va_G) (tA : Nat → ClassId) (b L : Nat) (xs : Nat → Int32) (k : Nat) : Prop :=
  ∀ sz : Nat, Met l yL_cell (.code yL_cell cL_cell 2 (some .int) :: kALL) ({ frames := 0, cells := 0, slots := 0, locals := 0 }) (va_Pc [.ref b, .int (nI k)] (fun U => U.heap.size = sz ∧ va_X b L xs U U.heap ∧ b < sz ∧ kK D tA U)) (kQy D (fun _ : Int32 => True) (fun v => some (.int v)) (fun _ => ([] : va_W)) (va_A [] sz)) 0 0 (va_A [] sz)
theorem P_nil {D : va_G} {H : Heap} : va_P D vwCl ([] : va_W) H := fun k q h => by simp at h
theorem D_nil {A : Nat → Prop} : va_D A ([] : va_W) := ⟨fun i j p q h => by simp at h, fun k q h => by simp at h⟩
theorem A_nil {sz q : Nat} : va_A ([] : va_W) sz q ↔ sz ≤ q := ⟨fun h => h.elim (fun ⟨k, e, h⟩ => by simp at h) id, Or.inr⟩
theorem c_L_cell (l : Launch) (D : va_G) (tA : Nat → ClassId) (b L : Nat) (xs : Nat → Int32) (hL : L < 65536) (k : Nat) (hk : k < 65536) : Kc l D tA b L xs k := by
  intro sz
  refine Met.ofW (cc := cL_cell) (maxL := 2) (ret := some .int) rfl rfl ?_
  intro p e s m args below meth c s₁ B hml hv
  obtain ⟨rfl, hsz, hX, hb, hK⟩ := hv
  subst hsz
  have hts : ∀ w ∈ kALL, w.before ([.ref b, .int (nI k)] : List Value).toArray s = true := fun w hw => atoms_spec B.pre w (List.mem_cons_of_mem _ hw)
  have hown : s.vm.findClass RL = some m.cls := findClass_of_methodNamed B.named
  have hl := lv_entry ([.ref b, .int (nI k)] : List Value) (n := 2) (Nat.le_of_ble_eq_true rfl)
  rw [lg_entry_eq]
  have X : kX D tA (p, e, ({ frames := 0, cells := 0, slots := 0, locals := 0 } : Room), s, m, ([.ref b, .int (nI k)] : List Value).toArray, below, meth, c, MQ below (kQy D (fun _ : Int32 => True) (fun v => some (.int v)) (fun _ => ([] : va_W)) (va_A [] s.heap.size)) ([.ref b, .int (nI k)] : List Value).toArray s 0 0 (va_A [] s.heap.size), va_A [] s.heap.size) cL_cell 2 RL 0 0 := ⟨B.exec, B.bytes, hml, hown, hts, hK, fun q h => Or.inr h, Nat.le_refl _, Nat.le_refl _⟩
  have E : ∀ (v : Int32) (lv : List (Nat × Value)), J l D (p, e, ({ frames := 0, cells := 0, slots := 0, locals := 0 } : Room), s, m, ([.ref b, .int (nI k)] : List Value).toArray, below, meth, c, MQ below (kQy D (fun _ : Int32 => True) (fun v => some (.int v)) (fun _ => ([] : va_W)) (va_A [] s.heap.size)) ([.ref b, .int (nI k)] : List Value).toArray s 0 0 (va_A [] s.heap.size), va_A [] s.heap.size) 0 0 [] lv 25 [.int v] := by
    intro v lv H locs ls hP hD hS hl1
    exact W.iret B.exec B.bytes B.returns (fun t ht hW => ⟨⟨v, trivial, rfl, P_nil⟩, hS.F ht⟩) hS.2.2 dL_cell_25 B.notSynchronized
  have hbA : ¬ va_A ([] : va_W) s.heap.size b := fun h => absurd (A_nil.mp h) (by omega)
  refine (?_ : J l D (p, e, ({ frames := 0, cells := 0, slots := 0, locals := 0 } : Room), s, m, ([.ref b, .int (nI k)] : List Value).toArray, below, meth, c, MQ below (kQy D (fun _ : Int32 => True) (fun v => some (.int v)) (fun _ => ([] : va_W)) (va_A [] s.heap.size)) ([.ref b, .int (nI k)] : List Value).toArray s 0 0 (va_A [] s.heap.size), va_A [] s.heap.size) 0 0 [] [(0, .ref b), (1, .int (nI k))] 0 []) s.heap [] _ P_nil D_nil va_S.rf (by show lv_has _ c.maxLocals _; rw [hml]; exact hl)
  refine j_iload_n (pc := 0) X dL_cell_0 rfl (q := 1) rfl ?_
  refine j_aload_n (pc := 1) X dL_cell_1 rfl (q := 0) rfl ?_
  refine j_slen (pc := 2) X hX hb hbA dL_cell_2 ?_
  refine j_icmp_ge (pc := 3) X (tgt := 12) (P := L ≤ k) dL_cell_3 (by decide) (nI_leI (by omega) (by omega)) (fun h3 => ?_) (fun h3 => ?_)
  · refine j_sipush (pc := 12) X (v := nI 7919) dL_cell_12 (by decide +kernel) ?_
    refine j_iload_n (pc := 15) X dL_cell_15 rfl (q := 1) rfl ?_
    refine j_bipush (pc := 16) X (v := nI 37) dL_cell_16 (by decide +kernel) ?_
    refine j_iadd (pc := 18) X dL_cell_18 rfl ?_
    refine j_imul (pc := 19) X dL_cell_19 rfl ?_
    refine j_iload_n (pc := 20) X dL_cell_20 rfl (q := 1) rfl ?_
    refine j_bipush (pc := 21) X (v := nI 67) dL_cell_21 (by decide +kernel) ?_
    refine j_iadd (pc := 23) X dL_cell_23 rfl ?_
    refine j_imul (pc := 24) X dL_cell_24 rfl ?_
    exact E _ _
  · refine j_aload_n (pc := 6) X dL_cell_6 rfl (q := 0) rfl ?_
    refine j_iload_n (pc := 7) X dL_cell_7 rfl (q := 1) rfl ?_
    refine j_sld (pc := 8) X hX hb hbA (i := k) (by omega) hL dL_cell_8 ?_
    refine j_goto (pc := 9) X (tgt := 25) dL_cell_9 (by decide) ?_
    exact E _ _
theorem cd_L_cell : kCardS yL_cell cL_cell 2 (some .int) 2 := ⟨⟨wc_L_cell, wi_L, by decide +kernel, by decide +kernel, rfl⟩, wt_L_cell⟩
theorem j_cell {l : Launch} {D : va_G} {tA : Nat → ClassId} {G : kCx} {cc : ByteArray} {nL : Nat} {fr lo n k : Nat} {w : va_W} {lv : List (Nat × Value)} {pc : Nat} {st : List Value} (X : kX D tA G cc nL RL fr lo) {index b L i : Nat} {xs : Nat → Int32} (hM : Kc l D tA b L xs i) (hX : va_X b L xs (gs G) (gs G).heap) (hbl : b < (gs G).heap.size) (hbA : ¬ gA G b) (hlink : Cond.methodLink RL index yL_cell ∈ kALL) (hroom : 1 ≤ fr ∧ 21 ≤ lo) (h0 : n ≤ (gR G).cells ∧ k ≤ (gR G).slots) (hcat : (st.map fun v => v.category).sum ≤ 8) (hdg : decode cc pc = .ok (.invokestatic index, 3))
    (kk : ∀ v : Int32, J l D G n k w lv (pc + 3) (.int v :: st)) : J l D G n k w lv pc (.int (nI i) :: .ref b :: st) := by
  intro H locs ls hP hD hS hl
  obtain ⟨hx, hb, hml, hown, hts, hK, hA, hR⟩ := X
  obtain ⟨⟨hcode, hini, hd⟩, hst⟩ := cd_L_cell
  have hH : H[b]? = (gs G).heap[b]? := hS.2.1 b hbl hbA
  have hX2 : va_X b L xs (gs G) H := hX.kept hH
  have hbH : b < H.size := Nat.lt_of_lt_of_le hbl hS.1
  refine k_cally (va_runS (As := [.ref b, .int (nI i)]) (rest := st) (nL := (gc G).maxLocals) (own := RL) (Ts := kALL) (bytes := cL_cell) (maxL := 2) (ret := some .int) ⟨hx, hb, rfl, hown, hts⟩ (hM H.size) (cwS 2 hts (kGoodApp (fun z hz => ?_) (kGood hcode)) rfl rfl rfl ⟨rfl, hd⟩ ⟨Nat.le_trans hroom.1 hR.1, Nat.le_trans hroom.2 hR.2⟩) ⟨fun a U g mk q => ?_, fun U hU hW => ⟨rfl, by rw [hU], ?_, hbH, hK.warm hW⟩⟩ rfl rfl hl.1 rfl (lv_room hcat) hdg h0) hS (fun q hq h => absurd (A_nil.mp h) (by omega)) (fun q h => hA q (Nat.le_trans hS.1 (A_nil.mp h))) (fun u H1 locs1 hu hP1 hk1 hS1 => ?_)
  · rcases List.mem_cons.mp hz with rfl | hz
    · exact ⟨hlink, good_of_word (kALL_good _ hlink)⟩
    rcases List.mem_cons.mp hz with rfl | hz
    · exact ⟨hst, good_of_word (kALL_good _ hst)⟩
    rcases List.mem_cons.mp hz with rfl | hz
    · exact ⟨hini, good_of_word (kALL_good _ hini)⟩
    · cases hz
  · obtain ⟨q0, q1, qX, qb, qK⟩ := q
    exact ⟨q0, q1, va_X.moved (Vm.Alike.refl _) qX, qb, kK.same (u := U) (U := U.calling g mk a) rfl qK⟩
  · rw [hU]
    exact va_X.moved hW.alike hX2
  · refine kk u H1 locs1 ls (fun j q hq => (hP j q hq).kept (hk1 q.1 (hP j q hq).lt (fun h => absurd (A_nil.mp h) (by have := (hP j q hq).lt; omega)))) hD hS1 hl
