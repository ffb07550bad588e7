abbrev Rs : Type := Int32 × Option Sg
abbrev tn (x : Int32) : Nat := x.toNatClampNeg
def aS (s : Sg) (o : Option Sg) : Sg := match o with
  | none => s
  | some s' => s'
def aH (v : Hs) (s : Sg) (o : Option Sg) : Hs := match o with
  | none => v
  | some _ => hPush v s
def oAddMachine (s : Sg) (st bl : Int32) : Rs :=
  if isW st (nI 10) (nI 200) = true ∧ isW bl (nI 0) (nI 12) = true then
    (if (sM s).1 < 5 then (nI (sM s).1, some (pMach s (tn st) (tn bl))) else (-3, none)) else (-2, none)
def oAddMember (s : Sg) : Rs := if (sP s).1 < 8 then (nI (sP s).1, some (uP s (tAdd 2 (sP s)))) else (-3, none)
def oSetWind (s : Sg) (h w : Int32) : Rs :=
  if toCome s h = true then
    (if isW w (nI 0) (nI 99) = true then
      (if sW s (tn h) = tn w then (-5, none) else (nI (sW s (tn h)), some (uW s (va_up (sW s) (tn h) (tn w))))) else (-2, none)) else (-1, none)
def oBook (s : Sg) (p m h ld r : Int32) : Rs :=
  if inR p (sP s).1 = true ∧ inR m (sM s).1 = true ∧ toCome s h = true then
    (if isLft ld r = true then
      (if canT s (tn m) (tn h) (tn ld) (tn r) = true then
        (if (sB s).1 < 30 then (nI (sB s).1, some (placeS (pBook s (tn p) (tn ld) (tn r)) (sB s).1 (tn m) (tn h))) else (-3, none)) else (-4, none)) else (-2, none)) else (-1, none)
def coin (s : Sg) (b : Nat) : Nat := if tGet 8 (sB s) b 2 = sN s then 4 else 0
def canS (s : Sg) (b : Nat) : Sg := uB (payS s (tGet 8 (sB s) b 0) (coin s b)) (tSet 8 (sB s) b 5 3)
def oCancel (s : Sg) (b : Int32) : Rs :=
  if inR b (sB s).1 = true then
    (if tGet 8 (sB s) (tn b) 5 = 0 then (nI (coin s (tn b)), some (canS s (tn b))) else (-4, none)) else (-1, none)
def swpS (s : Sg) (b c : Nat) : Sg := placeS (placeS s b (tGet 8 (sB s) c 1) (tGet 8 (sB s) c 2)) c (tGet 8 (sB s) b 1) (tGet 8 (sB s) b 2)
def oSwap (s : Sg) (b c : Int32) : Rs :=
  if inR b (sB s).1 = true ∧ inR c (sB s).1 = true then
    (if tn b = tn c then (-2, none) else
      (if tGet 8 (sB s) (tn b) 5 = 0 ∧ tGet 8 (sB s) (tn c) 5 = 0 then
        (if brsB s (tGet 8 (sB s) (tn c) 1) (tn b) = true ∧ brsB s (tGet 8 (sB s) (tn b) 1) (tn c) = true then
          (nI (tGet 8 (sB s) (tn c) 2), some (swpS s (tn b) (tn c))) else (-4, none)) else (-4, none))) else (-1, none)
def oOrder (s : Sg) (p fr to mu h : Int32) : Rs :=
  if inR p (sP s).1 = true ∧ inR fr (sM s).1 = true ∧ inR to (sM s).1 = true ∧ toCome s h = true then
    (if isW mu (nI 1) (nI 12) = true ∧ ¬ tn fr = tn to then
      (if (sV s).1 < 10 then (nI (sV s).1, some (pMove s (tn p) (tn fr) (tn to) (tn mu) (tn h))) else (-3, none)) else (-2, none)) else (-1, none)
def oTakeBack (s : Sg) (v : Int32) : Rs :=
  if inR v (sV s).1 = true then (nI ((sV s).1 - 1), some (uV s (tDel 5 (sV s) (tn v)))) else (-1, none)
def pasN : Nat → Sg → Sg × Nat
  | 0, s => (s, 0)
  | n + 1, s => ((psH (pasN n s).1).1, (pasN n s).2 + (psH (pasN n s).1).2)
def oPass (s : Sg) (n : Int32) : Rs :=
  if isW n (nI 1) (nI 20) = true then
    (if sN s + tn n < 200 then (nI (pasN (tn n) s).2, some (pasN (tn n) s).1) else (-4, none)) else (-2, none)
def oRestore (s b : Sg) (k : Bool) : Rs := if k = true then (nI (sN b), some b) else (-5, none)
def oBears (s : Sg) (m r : Int32) : Int32 :=
  if inR m (sM s).1 = true then (if isRad r = true then nI (brn (sM s) (tn m) (tn r)) else (-2)) else (-1)
def oWill (s : Sg) (m r h : Int32) : Rs :=
  if inR m (sM s).1 = true ∧ toCome s h = true then
    (if isRad r = true then (nI (brn (sM (clo 10 s (tn h))) (tn m) (tn r)), some (clo 10 s (tn h))) else (-2, none)) else (-1, none)
def oLimit (ld r : Int32) : Int32 := if isLft ld r = true then nI (limN (tn ld) (tn r)) else (-2)
def cB (s : Sg) (c v st : Nat) : Nat := cntN (fun r => decide (tGet 8 (sB s) r c = v ∧ tGet 8 (sB s) r 5 = st)) (sB s).1
def cS (s : Sg) (st : Nat) : Nat := cntN (fun r => decide (tGet 8 (sB s) r 5 = st)) (sB s).1
def cV (s : Sg) (c v : Nat) : Nat := cntN (fun r => decide (tGet 5 (sV s) r c = v)) (sV s).1
def oMachine (s : Sg) (m w : Int32) : Int32 :=
  if inR m (sM s).1 = true then
    (if w.toInt = 0 then nI (tGet 3 (sM s) (tn m) 0) else if w.toInt = 1 then nI (tGet 3 (sM s) (tn m) 1) else if w.toInt = 2 then nI (cB s 1 (tn m) 0)
     else if w.toInt = 3 then nI (cV s 1 (tn m)) else if w.toInt = 4 then nI (cV s 2 (tn m)) else if w.toInt = 5 then nI (tGet 3 (sM s) (tn m) 2) else if w.toInt = 6 then nI (cB s 1 (tn m) 1) else (-2)) else (-1)
def oMember (s : Sg) (p w : Int32) : Int32 :=
  if inR p (sP s).1 = true then
    (if w.toInt = 0 then nI (tGet 2 (sP s) (tn p) 0) else if w.toInt = 1 then nI (cB s 0 (tn p) 0) else if w.toInt = 2 then nI (cB s 0 (tn p) 1)
     else if w.toInt = 3 then nI (cB s 0 (tn p) 2) else if w.toInt = 4 then nI (cB s 0 (tn p) 3) else if w.toInt = 5 then nI (tGet 2 (sP s) (tn p) 1) else if w.toInt = 6 then nI (cV s 0 (tn p)) else (-2)) else (-1)
def oBooking (s : Sg) (b w : Int32) : Int32 :=
  if inR b (sB s).1 = true then
    (if w.toInt = 8 then nI (limO (sB s) (tn b)) else if isW w (nI 0) (nI 7) = true then nI (tGet 8 (sB s) (tn b) (tn w)) else (-2)) else (-1)
def oMove (s : Sg) (v w : Int32) : Int32 :=
  if inR v (sV s).1 = true then (if isW w (nI 0) (nI 4) = true then nI (tGet 5 (sV s) (tn v) (tn w)) else (-2)) else (-1)
def oBookedAt (s : Sg) (m h : Int32) : Int32 := if inR m (sM s).1 = true ∧ inR h 200 = true then rO (bkF (sB s) (tn m) (tn h)) else (-1)
def oMachineFor (s : Sg) (h ld r : Int32) : Int32 :=
  if toCome s h = true then (if isLft ld r = true then rO (fndN (fun m => canT s m (tn h) (tn ld) (tn r)) (sM s).1) else (-2)) else (-1)
def fatN (s : Sg) (b : Nat) : Nat := if must s b = true then (if caus s b = none then 2 else 1) else 0
def oFate (s : Sg) (b : Int32) : Rs :=
  if inR b (sB s).1 = true then
    (if tGet 8 (sB s) (tn b) 5 = 0 then (nI (fatN (clo 10 s (tGet 8 (sB s) (tn b) 2)) (tn b)), some (clo 10 s (tGet 8 (sB s) (tn b) 2))) else (-4, none)) else (-1, none)
def oWind (s : Sg) (h : Int32) : Int32 := if inR h 200 = true then nI (sW s (tn h)) else (-1)
def oCount (s : Sg) (sz len : Nat) (w : Int32) : Int32 :=
  if w.toInt = 0 then nI (sN s) else if w.toInt = 1 then nI (sM s).1 else if w.toInt = 2 then nI (sP s).1 else if w.toInt = 3 then nI (sB s).1
  else if w.toInt = 4 then nI (cS s 0) else if w.toInt = 5 then nI (cS s 1) else if w.toInt = 6 then nI (cS s 2) else if w.toInt = 7 then nI (cS s 3)
  else if w.toInt = 8 then nI (sV s).1 else if w.toInt = 9 then nI (sD s) else if w.toInt = 10 then nI (sF s)
  else if w.toInt = 11 then nI (sumN (fun r => tGet 2 (sP s) r 0) (sP s).1) else if w.toInt = 12 then nI (sumN (fun r => tGet 2 (sP s) r 1) (sP s).1)
  else if w.toInt = 13 then nI (sX s) else if w.toInt = 14 then nI (sumN (fun r => tGet 3 (sM s) r 1) (sM s).1) else if w.toInt = 15 then nI sz else if w.toInt = 16 then nI len else (-2)
theorem isW_t {x : Int32} {a b : Nat} (ha : a < 2 ^ 31) (hb : b < 2 ^ 31) (h : isW x (nI a) (nI b) = true) : ∃ k : Nat, (a ≤ k ∧ k ≤ b) ∧ x = nI k := by
  simp only [isW, nI_toInt ha, nI_toInt hb, decide_eq_true_eq] at h
  obtain ⟨k, hk, e⟩ := i_in (x := x) (n := b + 1) (by omega) (by omega)
  subst e
  rw [nI_toInt (by omega)] at h
  exact ⟨k, by omega, rfl⟩
theorem toCome_t {s : Sg} {x : Int32} (h : toCome s x = true) : ∃ k : Nat, (sN s ≤ k ∧ k < 200) ∧ x = nI k := by
  simp only [toCome, decide_eq_true_eq] at h
  obtain ⟨k, hk, e⟩ := i_in (x := x) (n := 200) (by omega) (by omega)
  subst e
  rw [nI_toInt (by omega)] at h
  exact ⟨k, by omega, rfl⟩
theorem isRad_t {x : Int32} (h : isRad x = true) : ∃ k : Nat, (2 ≤ k ∧ k ≤ 60) ∧ x = nI k := by
  simp only [isRad, decide_eq_true_eq] at h
  obtain ⟨k, hk, e⟩ := i_in (x := x) (n := 61) (by omega) (by omega)
  subst e
  rw [nI_toInt (by omega)] at h
  exact ⟨k, by omega, rfl⟩
theorem isLft_t {x r : Int32} (h : isLft x r = true) : ∃ k j : Nat, (1 ≤ k ∧ k ≤ 2000 ∧ 2 ≤ j ∧ j ≤ 60) ∧ x = nI k ∧ r = nI j := by
  simp only [isLft, decide_eq_true_eq] at h
  obtain ⟨k, hk, e⟩ := i_in (x := x) (n := 2001) (by omega) (by omega)
  obtain ⟨j, hj, e2⟩ := i_in (x := r) (n := 61) (by omega) (by omega)
  subst e e2
  rw [nI_toInt (by omega), nI_toInt (by omega)] at h
  exact ⟨k, j, by omega, rfl, rfl⟩
theorem tn_nI {k : Nat} (h : k < 2 ^ 31) : tn (nI k) = k := nI_clamp h
theorem nf5 {x : Bool} (h : x = false) : ¬ x = true := by rw [h]; decide
theorem nI_m100 (f : Nat) : nI 4294967196 - nI f = (-100) - nI f := by
  have e : nI 4294967196 = (-100) := by decide +kernel
  rw [e]
