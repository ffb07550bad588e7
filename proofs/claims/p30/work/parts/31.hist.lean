/-! the ring: an act that is undone -/
theorem HOk.push {v : Hs} {s : Sg} (h : HOk v) (hw : Wf s) : HOk (hPush v s) := by
  refine ⟨Nat.mod_lt _ (by decide), Nat.min_le_right _ _, fun i => ?_⟩
  show Wf (va_up v.1 v.2.1 s i)
  by_cases q : i = v.2.1
  · rw [q, up_same]; exact hw
  · rw [up_ne _ _ q]; exact h.2.2 i
theorem HOk.pop {v : Hs} (h : HOk v) : HOk (hPop v) := ⟨Nat.mod_lt _ (by decide), by show v.2.2 - 1 ≤ 4; have := h.2.1; omega, h.2.2⟩
theorem HOk.aH {v : Hs} {s : Sg} (h : HOk v) (hw : Wf s) (o : Option Sg) : HOk (aH v s o) := by
  cases o with
  | none => exact h
  | some s' => exact h.push hw
theorem un_n {v : Hs} {s : Sg} : ¬ (hPush v s).2.2 = 0 := by show ¬ min (v.2.2 + 1) 4 = 0; omega
theorem un_s {v : Hs} {s s' : Sg} (h : v.2.1 < 4) : (if (hPush v s).2.2 = 0 then s' else (hPush v s).1 (hLast (hPush v s))) = s := by
  rw [if_neg un_n]
  have e : hLast (hPush v s) = v.2.1 := by
    show ((v.2.1 + 1) % 4 + 4 - 1) % 4 = v.2.1
    omega
  rw [e]
  exact up_same _ _ _
theorem un_v {v : Hs} {s : Sg} : (if (hPush v s).2.2 = 0 then hPush v s else hPop (hPush v s)) = hPop (hPush v s) := if_neg un_n
theorem un_r {v : Hs} {s : Sg} : (if (hPush v s).2.2 = 0 then (-5) else nI ((hPush v s).2.2 - 1)) = nI (min (v.2.2 + 1) 4 - 1) := if_neg un_n
/-! single answers -/
theorem oPass_t {s : Sg} {k : Nat} (h1 : 1 ≤ k) (h2 : k ≤ 20) (h3 : sN s + k < 200) : oPass s (nI k) = (nI (pasN k s).2, some (pasN k s).1) := by
  unfold oPass
  rw [if_pos, tn_nI (by omega), if_pos h3]
  unfold isW
  rw [nI_toInt (show k < 2 ^ 31 by omega), nI_toInt (show 1 < 2 ^ 31 by decide), nI_toInt (show 20 < 2 ^ 31 by decide)]
  exact decide_eq_true (by omega)
theorem oFate_t {s : Sg} (hw : Wf s) {b : Nat} (hb : b < (sB s).1) (h5 : tGet 8 (sB s) b 5 = 0) : oFate s (nI b) = (nI (fatN (clo 10 s (tGet 8 (sB s) b 2)) b), some (clo 10 s (tGet 8 (sB s) b 2))) := by
  have hn := hw.n
  unfold oFate
  rw [if_pos (inR_nI hb (by omega)), tn_nI (show b < 2 ^ 31 by omega), if_pos h5]
theorem oFate_f {s : Sg} (hw : Wf s) {b : Nat} (hb : b < (sB s).1) (h5 : ¬ tGet 8 (sB s) b 5 = 0) : oFate s (nI b) = ((-4), none) := by
  have hn := hw.n
  unfold oFate
  rw [if_pos (inR_nI hb (by omega)), tn_nI (show b < 2 ^ 31 by omega), if_neg h5]
theorem oWill_t {s : Sg} (hw : Wf s) {m r t : Nat} (hm : m < (sM s).1) (hr : 2 ≤ r ∧ r ≤ 60) (ht : sN s ≤ t) (ht2 : t < 200) : oWill s (nI m) (nI r) (nI t) = (nI (brn (sM (clo 10 s t)) m r), some (clo 10 s t)) := by
  have hn := hw.n
  unfold oWill
  rw [if_pos ⟨inR_nI hm (by omega), toCome_nI ht ht2⟩, if_pos (isRad_nI hr), tn_nI (show m < 2 ^ 31 by omega), tn_nI (show r < 2 ^ 31 by omega), tn_nI (show t < 2 ^ 31 by omega)]
theorem fat_le (s : Sg) (b : Nat) : fatN s b ≤ 2 := by
  unfold fatN
  split
  · split <;> omega
  · omega
theorem nI_n4 {a : Nat} (h : a < 2 ^ 31) : ¬ nI a = (-4) := fun q => by
  have h1 := nI_toInt h
  rw [q] at h1
  have h2 : ((-4 : Int32)).toInt = -4 := by decide
  omega
theorem pas_nB {s : Sg} : ∀ k, (sB (pasN k s).1).1 = (sB s).1
  | 0 => rfl
  | k + 1 => (psH_MV (pasN k s).1).2.2.2.trans (pas_nB k)
section
variable {s : Sg} {p m t ld r : Nat}
theorem oBook_u (hw : Wf s) (hp : p < (sP s).1) (hm : m < (sM s).1) (ht : sN s ≤ t) (ht2 : t < 200) (hl : 1 ≤ ld ∧ ld ≤ 2000) (hr : 2 ≤ r ∧ r ≤ 60) : oBook s (nI p) (nI m) (nI t) (nI ld) (nI r) = (if canT s m t ld r = true then (if (sB s).1 < 30 then (nI (sB s).1, some (placeS (pBook s p ld r) (sB s).1 m t)) else (-3, none)) else (-4, none)) := by
  have hn := hw.n
  unfold oBook
  rw [if_pos ⟨inR_nI hp (by omega), inR_nI hm (by omega), toCome_nI ht ht2⟩, if_pos (isLft_nI hl hr), tn_nI (show p < 2 ^ 31 by omega), tn_nI (show m < 2 ^ 31 by omega), tn_nI (show t < 2 ^ 31 by omega), tn_nI (show ld < 2 ^ 31 by omega), tn_nI (show r < 2 ^ 31 by omega)]
/-- the new booking stands where it was booked -/
theorem new_get : tGet 8 (sB (placeS (pBook s p ld r) (sB s).1 m t)) (sB s).1 1 = m ∧ tGet 8 (sB (placeS (pBook s p ld r) (sB s).1 m t)) (sB s).1 2 = t ∧ tGet 8 (sB (placeS (pBook s p ld r) (sB s).1 m t)) (sB s).1 5 = 0 ∧ tGet 8 (sB (placeS (pBook s p ld r) (sB s).1 m t)) (sB s).1 6 = sW s t := by
  refine ⟨?_, ?_, ?_, ?_⟩
  · rw [plc_get (by decide), if_neg (by omega), if_neg (by omega), if_pos ⟨rfl, rfl⟩]
  · rw [plc_get (by decide), if_neg (by omega), if_pos ⟨rfl, rfl⟩]
  · rw [plc_get (by decide), if_neg (by omega), if_neg (by omega), if_neg (by omega)]
    exact get_set_s (by decide)
  · rw [plc_get (by decide), if_pos ⟨rfl, rfl⟩]; rfl
theorem new_bk {bl : Nat} (h : Iv bl (placeS (pBook s p ld r) (sB s).1 m t)) : bkF (sB (placeS (pBook s p ld r) (sB s).1 m t)) m t = some (sB s).1 := by
  have g := new_get (s := s) (p := p) (m := m) (t := t) (ld := ld) (r := r)
  have e := (bk_is h.2.1 (b := (sB s).1) (show (sB s).1 < (sB s).1 + 1 by omega)).mpr g.2.2.1
  rw [g.1, g.2.1] at e
  exact e
theorem fnd_can {q : Nat → Bool} {n : Nat} (hm : m < n) (h : q m = true) : ∃ j, fndN q n = some j ∧ j ≤ m := by
  cases e : fndN q n with
  | none => have := fnd_none n e m hm; rw [h] at this; cases this
  | some j =>
    refine ⟨j, rfl, Nat.not_lt.mp (fun z => ?_)⟩
    have := fnd_min n j e m z
    rw [h] at this; cases this
end
