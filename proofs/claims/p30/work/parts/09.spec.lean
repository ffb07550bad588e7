abbrev Sg : Type := Tb × Tb × Tb × Tb × (Nat → Nat) × Nat × Nat × Nat × Nat
abbrev sM (s : Sg) : Tb := s.1
abbrev sP (s : Sg) : Tb := s.2.1
abbrev sB (s : Sg) : Tb := s.2.2.1
abbrev sV (s : Sg) : Tb := s.2.2.2.1
abbrev sW (s : Sg) : Nat → Nat := s.2.2.2.2.1
abbrev sN (s : Sg) : Nat := s.2.2.2.2.2.1
abbrev sD (s : Sg) : Nat := s.2.2.2.2.2.2.1
abbrev sF (s : Sg) : Nat := s.2.2.2.2.2.2.2.1
abbrev sX (s : Sg) : Nat := s.2.2.2.2.2.2.2.2
def uM (s : Sg) (t : Tb) : Sg := (t, sP s, sB s, sV s, sW s, sN s, sD s, sF s, sX s)
def uP (s : Sg) (t : Tb) : Sg := (sM s, t, sB s, sV s, sW s, sN s, sD s, sF s, sX s)
def uB (s : Sg) (t : Tb) : Sg := (sM s, sP s, t, sV s, sW s, sN s, sD s, sF s, sX s)
def uV (s : Sg) (t : Tb) : Sg := (sM s, sP s, sB s, t, sW s, sN s, sD s, sF s, sX s)
def uW (s : Sg) (f : Nat → Nat) : Sg := (sM s, sP s, sB s, sV s, f, sN s, sD s, sF s, sX s)
def uN (s : Sg) (n : Nat) : Sg := (sM s, sP s, sB s, sV s, sW s, n, sD s, sF s, sX s)
def uD (s : Sg) (n : Nat) : Sg := (sM s, sP s, sB s, sV s, sW s, sN s, n, sF s, sX s)
def uF (s : Sg) (n : Nat) : Sg := (sM s, sP s, sB s, sV s, sW s, sN s, sD s, n, sX s)
def uX (s : Sg) (n : Nat) : Sg := (sM s, sP s, sB s, sV s, sW s, sN s, sD s, sF s, n)
/-- the cells of a state, at the addresses a -/
def stW (tA : Nat → ClassId) (a : Nat → Nat) (s : Sg) : va_W :=
  [(a 0, .inr (1, [.ref (a 1), .ref (a 2), .ref (a 3), .ref (a 4), .ref (a 5), .int (nI (sN s)), .int (nI (sD s)), .int (nI (sF s)), .int (nI (sX s))])), (a 5, .inl (tA 0, 200, .inl (nF (sW s)))), (a 1, .inr (2, [.ref (a 6), .int (nI 5), .int (nI 3), .int (nI (sM s).1)])), (a 6, .inl (tA 0, 5 * 3, .inl (nF (sM s).2))), (a 2, .inr (2, [.ref (a 7), .int (nI 8), .int (nI 2), .int (nI (sP s).1)])), (a 7, .inl (tA 0, 8 * 2, .inl (nF (sP s).2))), (a 3, .inr (2, [.ref (a 8), .int (nI 30), .int (nI 8), .int (nI (sB s).1)])), (a 8, .inl (tA 0, 30 * 8, .inl (nF (sB s).2))), (a 4, .inr (2, [.ref (a 9), .int (nI 10), .int (nI 5), .int (nI (sV s).1)])), (a 9, .inl (tA 0, 10 * 5, .inl (nF (sV s).2)))]
def stA (a : Nat → Nat) : List Nat := [a 0, a 5, a 1, a 6, a 2, a 7, a 3, a 8, a 4, a 9]
theorem st_fst {tA : Nat → ClassId} {a : Nat → Nat} {s : Sg} : (stW tA a s).map Prod.fst = stA a := rfl
/-- NONE, as it stands in a cell -/
def NN : Nat := 4294967291
def noO (v : Nat) : Option Nat := if v = NN then none else some v
theorem rO_noO (v : Nat) : rO (noO v) = nI v := by
  by_cases h : v = NN
  · subst h; decide +kernel
  · simp [noO, h, rO]
def fndN (p : Nat → Bool) : Nat → Option Nat
  | 0 => none
  | n + 1 => match fndN p n with
    | some i => some i
    | none => if p n = true then some n else none
theorem fnd_at {p : Nat → Bool} {i : Nat} (h : fndN p i = none) (hp : p i = true) : fndN p (i + 1) = some i := by simp [fndN, h, hp]
theorem fnd_no {p : Nat → Bool} {i : Nat} (h : fndN p i = none) (hp : ¬ p i = true) : fndN p (i + 1) = none := by simp [fndN, h, hp]
theorem fnd_up {p : Nat → Bool} {i j : Nat} (h : fndN p j = some i) : ∀ n, j ≤ n → fndN p n = some i := by
  intro n hn
  induction n with
  | zero => rw [show j = 0 by omega] at h; exact h
  | succ n ih =>
    rcases Nat.lt_or_ge j (n + 1) with q | q
    · simp [fndN, ih (by omega)]
    · rw [show n + 1 = j by omega]; exact h
theorem fnd_lt {p : Nat → Bool} {i : Nat} : ∀ n, fndN p n = some i → i < n ∧ p i = true
  | 0, h => by simp [fndN] at h
  | n + 1, h => by
    cases e : fndN p n with
    | some j =>
      simp only [fndN, e] at h
      cases h
      have := fnd_lt n e
      exact ⟨by omega, this.2⟩
    | none =>
      simp only [fndN, e] at h
      by_cases hp : p n = true
      · rw [if_pos hp] at h; cases h; exact ⟨Nat.lt_succ_self _, hp⟩
      · rw [if_neg hp] at h; cases h
def limN (ld r : Nat) : Nat := max 10 (60 - ld / 20 - r / 2)
def brn (M : Tb) (m r : Nat) : Nat := min ((tGet 3 M m 0 * 100 + tGet 3 M m 1 * 150) / max r 2) (tGet 3 M m 0 * 10)
def bkF (B : Tb) (m h : Nat) : Option Nat := fndN (fun b => decide (tGet 8 B b 5 = 0 ∧ tGet 8 B b 1 = m ∧ tGet 8 B b 2 = h)) B.1
def canT (s : Sg) (m h ld r : Nat) : Bool := decide (ld ≤ brn (sM s) m r ∧ bkF (sB s) m h = none)
def brsB (s : Sg) (m b : Nat) : Bool := decide (tGet 8 (sB s) b 3 ≤ brn (sM s) m (tGet 8 (sB s) b 4))
def limO (B : Tb) (b : Nat) : Nat := limN (tGet 8 B b 3) (tGet 8 B b 4)
def must (s : Sg) (b : Nat) : Bool := decide (brsB s (tGet 8 (sB s) b 1) b = false ∨ limO (sB s) b < sW s (tGet 8 (sB s) b 2))
def caus (s : Sg) (b : Nat) : Option Nat :=
  if brsB s (tGet 8 (sB s) b 1) b = true then (if limO (sB s) b < tGet 8 (sB s) b 6 then some (tGet 8 (sB s) b 0) else none) else noO (tGet 3 (sM s) (tGet 8 (sB s) b 1) 2)
def nxA (V : Tb) (h : Nat) : Nat → Option Nat × Nat
  | 0 => (none, h + 1)
  | i + 1 => if tGet 5 V i 4 < (nxA V h i).2 then (some i, tGet 5 V i 4) else nxA V h i
def nxt (V : Tb) (h : Nat) : Option Nat := (nxA V h V.1).1
def payS (s : Sg) (p c : Nat) : Sg := uP s (tSet 2 (sP s) p 0 (tGet 2 (sP s) p 0 + c))
/-- the blocks go, and the member is noted -/
def mvM (M : Tb) (fr to mu who : Nat) : Tb :=
  tSet 3 (tSet 3 (tSet 3 M fr 1 (tGet 3 M fr 1 - mu)) to 1 (tGet 3 (tSet 3 M fr 1 (tGet 3 M fr 1 - mu)) to 1 + mu)) fr 2 who
def clM (s : Sg) (v : Nat) : Sg :=
  if tGet 3 (sM s) (tGet 5 (sV s) v 1) 1 < tGet 5 (sV s) v 3 ∨ 12 < tGet 3 (sM s) (tGet 5 (sV s) v 2) 1 + tGet 5 (sV s) v 3
  then uF (payS (uV s (tDel 5 (sV s) v)) (tGet 5 (sV s) v 0) 5) (sF s + 1)
  else uD (payS (uM (uV s (tDel 5 (sV s) v)) (mvM (sM s) (tGet 5 (sV s) v 1) (tGet 5 (sV s) v 2) (tGet 5 (sV s) v 3) (tGet 5 (sV s) v 0))) (tGet 5 (sV s) v 0) (5 + 2 * tGet 5 (sV s) v 3)) (sD s + 1)
def clo : Nat → Sg → Nat → Sg
  | 0, s, _ => s
  | n + 1, s, h => match nxt (sV s) h with
    | none => s
    | some v => clo n (clM s v) h
def placeS (s : Sg) (b m h : Nat) : Sg := uB s (tSet 8 (tSet 8 (tSet 8 (sB s) b 1 m) b 2 h) b 6 (sW s h))
def lftS (s : Sg) (b : Nat) : Sg := payS (uB s (tSet 8 (sB s) b 5 1)) (tGet 8 (tSet 8 (sB s) b 5 1) b 0) 30
def fre (B : Tb) (m : Nat) : Nat → Nat → Option Nat
  | 0, _ => none
  | n + 1, h => if bkF B m h = none then some h else fre B m n (h + 1)
def cryS (s : Sg) (b : Nat) : Sg := match fre (sB s) (tGet 8 (sB s) b 1) (min (sN s + 9) 199 - sN s) (sN s + 1) with
  | some h => placeS s b (tGet 8 (sB s) b 1) h
  | none => uB s (tSet 8 (sB s) b 5 2)
def cauS (s : Sg) (b : Nat) : Sg := match caus s b with
  | none => uX s (sX s + 1)
  | some p => payS (uP s (tSet 2 (sP s) p 1 (tGet 2 (sP s) p 1 + 1))) p 8
def incB (s : Sg) (b : Nat) : Sg := uB s (tSet 8 (sB s) b 7 (tGet 8 (sB s) b 7 + 1))
def stbS (s : Sg) (b : Nat) : Sg := cryS (incB (cauS s b) b) b
def stpB (q : Sg × Nat) (b : Nat) : Sg × Nat :=
  if tGet 8 (sB q.1) b 5 = 0 ∧ tGet 8 (sB q.1) b 2 = sN q.1 then (if must q.1 b = true then (stbS q.1 b, q.2) else (lftS q.1 b, q.2 + 1)) else q
def psB : Nat → Sg → Sg × Nat
  | 0, s => (s, 0)
  | n + 1, s => stpB (psB n s) n
def psC (s : Sg) : Sg × Nat := psB (sB (clo 10 s (sN s))).1 (clo 10 s (sN s))
def psH (s : Sg) : Sg × Nat := (uN (psC s).1 (sN (psC s).1 + 1), (psC s).2)
def pMach (s : Sg) (st bl : Nat) : Sg := uM s (tSet 3 (tSet 3 (tSet 3 (tAdd 3 (sM s)) (sM s).1 0 st) (sM s).1 1 bl) (sM s).1 2 NN)
def pBook (s : Sg) (p ld r : Nat) : Sg := uB s (tSet 8 (tSet 8 (tSet 8 (tSet 8 (tAdd 8 (sB s)) (sB s).1 0 p) (sB s).1 3 ld) (sB s).1 4 r) (sB s).1 5 0)
def pMove (s : Sg) (p fr to mu h : Nat) : Sg := uV s (tSet 5 (tSet 5 (tSet 5 (tSet 5 (tSet 5 (tAdd 5 (sV s)) (sV s).1 0 p) (sV s).1 1 fr) (sV s).1 2 to) (sV s).1 3 mu) (sV s).1 4 h)
def toCome (s : Sg) (x : Int32) : Bool := decide ((sN s : Int) ≤ x.toInt ∧ x.toInt < 200)
def allB (p : Nat → Bool) : Nat → Bool
  | 0 => true
  | n + 1 => allB p n && p n
def allTo (s : Sg) (t : Tb) : Bool := allB (fun r => toCome s (nI (tGet 2 t r 0))) t.1
def telW (f : Nat → Nat) (t : Tb) : Nat → (Nat → Nat)
  | 0 => f
  | n + 1 => va_up (telW f t n) (tGet 2 t n 0) (tGet 2 t n 1)
def WfT (cols most : Nat) (ok : Nat → Nat → Prop) (t : Tb) : Prop := t.1 ≤ most ∧ ∀ r, r < t.1 → ∀ c, c < cols → ok c (tGet cols t r c)
def okM (nP : Nat) : Nat → Nat → Prop
  | 0, v => 10 ≤ v ∧ v ≤ 200
  | 1, v => v ≤ 12
  | _, v => v = NN ∨ v < nP
def okB (nP nM : Nat) : Nat → Nat → Prop
  | 0, v => v < nP
  | 1, v => v < nM
  | 2, v => v < 200
  | 3, v => 1 ≤ v ∧ v ≤ 2000
  | 4, v => 2 ≤ v ∧ v ≤ 60
  | 5, v => v ≤ 3
  | 6, v => v ≤ 99
  | _, _ => True
def okV (nP nM : Nat) : Nat → Nat → Prop
  | 0, v => v < nP
  | 1, v => v < nM
  | 2, v => v < nM
  | 3, v => 1 ≤ v ∧ v ≤ 12
  | _, v => v < 200
def Wf (s : Sg) : Prop := WfT 3 5 (okM (sP s).1) (sM s) ∧ (sP s).1 ≤ 8 ∧ WfT 8 30 (okB (sP s).1 (sM s).1) (sB s) ∧ WfT 5 10 (okV (sP s).1 (sM s).1) (sV s) ∧ (∀ h, h < 200 → sW s h ≤ 99) ∧ sN s ≤ 199
theorem cell_inj {cols r c r' c' : Nat} (hc : c < cols) (hc' : c' < cols) (h : r * cols + c = r' * cols + c') : r = r' ∧ c = c' := by
  have h1 : (r * cols + c) / cols = r := by
    rw [Nat.mul_comm, Nat.mul_add_div (by omega), Nat.div_eq_of_lt hc, Nat.add_zero]
  have h2 : (r' * cols + c') / cols = r' := by
    rw [Nat.mul_comm, Nat.mul_add_div (by omega), Nat.div_eq_of_lt hc', Nat.add_zero]
  have h3 : r = r' := by rw [← h1, ← h2, h]
  subst h3
  exact ⟨rfl, by omega⟩
theorem get_set {cols r c r' c' v : Nat} {t : Tb} (hc : c < cols) (hc' : c' < cols) : tGet cols (tSet cols t r c v) r' c' = if r' = r ∧ c' = c then v else tGet cols t r' c' := by
  show va_up t.2 (r * cols + c) v (r' * cols + c') = _
  by_cases h : r' = r ∧ c' = c
  · rw [if_pos h, h.1, h.2, up_same]
  · rw [if_neg h, up_ne]
    · rfl
    · exact fun q => h (cell_inj hc' hc q)
theorem get_set_c {cols r c r' c' v : Nat} {t : Tb} (hc : c < cols) (hc' : c' < cols) (h : c' ≠ c) : tGet cols (tSet cols t r c v) r' c' = tGet cols t r' c' := by
  rw [get_set hc hc', if_neg (fun q => h q.2)]
theorem get_set_r {cols r c r' c' v : Nat} {t : Tb} (hc : c < cols) (hc' : c' < cols) (h : r' ≠ r) : tGet cols (tSet cols t r c v) r' c' = tGet cols t r' c' := by
  rw [get_set hc hc', if_neg (fun q => h q.1)]
theorem get_set_s {cols r c v : Nat} {t : Tb} (hc : c < cols) : tGet cols (tSet cols t r c v) r c = v := by
  rw [get_set hc hc, if_pos ⟨rfl, rfl⟩]
theorem get_add_o {cols r c : Nat} {t : Tb} (hr : r < t.1) (hc : c < cols) : tGet cols (tAdd cols t) r c = tGet cols t r c := by
  show (if t.1 * cols ≤ r * cols + c ∧ r * cols + c < t.1 * cols + cols then 0 else t.2 (r * cols + c)) = _
  have : r * cols + c < t.1 * cols := cell_lt hr (Nat.le_refl _) hc
  rw [if_neg (by omega)]
  rfl
theorem get_add_n {cols c : Nat} {t : Tb} (hc : c < cols) : tGet cols (tAdd cols t) t.1 c = 0 := by
  show (if t.1 * cols ≤ t.1 * cols + c ∧ t.1 * cols + c < t.1 * cols + cols then 0 else _) = 0
  rw [if_pos (by omega)]
theorem get_del {cols r r' c : Nat} {t : Tb} (hr : r' < t.1 - 1) (hc : c < cols) : tGet cols (tDel cols t r) r' c = if r ≤ r' then tGet cols t (r' + 1) c else tGet cols t r' c := by
  show (if r * cols ≤ r' * cols + c ∧ r' * cols + c < (t.1 - 1) * cols then t.2 (r' * cols + c + cols) else t.2 (r' * cols + c)) = _
  have h1 : r' * cols + c < (t.1 - 1) * cols := cell_lt hr (Nat.le_refl _) hc
  by_cases h : r ≤ r'
  · rw [if_pos h, if_pos ⟨Nat.le_trans (Nat.mul_le_mul_right cols h) (Nat.le_add_right _ _), h1⟩]
    show _ = t.2 ((r' + 1) * cols + c)
    rw [Nat.succ_mul]
    exact congrArg t.2 (by omega)
  · rw [if_neg h, if_neg]
    · rfl
    · intro q
      have : r' * cols + c < r * cols := cell_lt (show r' < r by omega) (Nat.le_refl _) hc
      omega
theorem WfT.set {cols most : Nat} {ok : Nat → Nat → Prop} {t : Tb} {r c v : Nat} (h : WfT cols most ok t) (hc : c < cols) (hv : ok c v) : WfT cols most ok (tSet cols t r c v) := by
  refine ⟨h.1, fun r' hr' c' hc' => ?_⟩
  rw [get_set hc hc']
  by_cases q : r' = r ∧ c' = c
  · rw [if_pos q, q.2]; exact hv
  · rw [if_neg q]; exact h.2 r' hr' c' hc'
theorem WfT.del {cols most : Nat} {ok : Nat → Nat → Prop} {t : Tb} {r : Nat} (h : WfT cols most ok t) : WfT cols most ok (tDel cols t r) := by
  refine ⟨Nat.le_trans (Nat.sub_le _ _) h.1, fun r' hr' c' hc' => ?_⟩
  have hr2 : r' < t.1 - 1 := hr'
  rw [get_del hr2 hc']
  by_cases q : r ≤ r'
  · rw [if_pos q]; exact h.2 (r' + 1) (by omega) c' hc'
  · rw [if_neg q]; exact h.2 r' (by omega) c' hc'
theorem WfT.imp {cols most : Nat} {ok ok' : Nat → Nat → Prop} {t : Tb} (h : WfT cols most ok t) (hi : ∀ c v, c < cols → ok c v → ok' c v) : WfT cols most ok' t := ⟨h.1, fun r hr c hc => hi c _ hc (h.2 r hr c hc)⟩
/-- what is known of a machine, a booking, a move -/
theorem Wf.m {s : Sg} (h : Wf s) {m : Nat} (hm : m < (sM s).1) : (10 ≤ tGet 3 (sM s) m 0 ∧ tGet 3 (sM s) m 0 ≤ 200) ∧ tGet 3 (sM s) m 1 ≤ 12 ∧ (tGet 3 (sM s) m 2 = NN ∨ tGet 3 (sM s) m 2 < (sP s).1) :=
  ⟨h.1.2 m hm 0 (by decide), h.1.2 m hm 1 (by decide), h.1.2 m hm 2 (by decide)⟩
theorem Wf.b {s : Sg} (h : Wf s) {b : Nat} (hb : b < (sB s).1) : tGet 8 (sB s) b 0 < (sP s).1 ∧ tGet 8 (sB s) b 1 < (sM s).1 ∧ tGet 8 (sB s) b 2 < 200 ∧ (1 ≤ tGet 8 (sB s) b 3 ∧ tGet 8 (sB s) b 3 ≤ 2000) ∧ (2 ≤ tGet 8 (sB s) b 4 ∧ tGet 8 (sB s) b 4 ≤ 60) ∧ tGet 8 (sB s) b 5 ≤ 3 ∧ tGet 8 (sB s) b 6 ≤ 99 :=
  ⟨h.2.2.1.2 b hb 0 (by decide), h.2.2.1.2 b hb 1 (by decide), h.2.2.1.2 b hb 2 (by decide), h.2.2.1.2 b hb 3 (by decide), h.2.2.1.2 b hb 4 (by decide), h.2.2.1.2 b hb 5 (by decide), h.2.2.1.2 b hb 6 (by decide)⟩
theorem Wf.v {s : Sg} (h : Wf s) {v : Nat} (hv : v < (sV s).1) : tGet 5 (sV s) v 0 < (sP s).1 ∧ tGet 5 (sV s) v 1 < (sM s).1 ∧ tGet 5 (sV s) v 2 < (sM s).1 ∧ (1 ≤ tGet 5 (sV s) v 3 ∧ tGet 5 (sV s) v 3 ≤ 12) ∧ tGet 5 (sV s) v 4 < 200 :=
  ⟨h.2.2.2.1.2 v hv 0 (by decide), h.2.2.2.1.2 v hv 1 (by decide), h.2.2.2.1.2 v hv 2 (by decide), h.2.2.2.1.2 v hv 3 (by decide), h.2.2.2.1.2 v hv 4 (by decide)⟩
theorem Wf.n {s : Sg} (h : Wf s) : (sM s).1 ≤ 5 ∧ (sP s).1 ≤ 8 ∧ (sB s).1 ≤ 30 ∧ (sV s).1 ≤ 10 ∧ sN s ≤ 199 := ⟨h.1.1, h.2.1, h.2.2.1.1, h.2.2.2.1.1, h.2.2.2.2.2⟩
theorem Wf.w {s : Sg} (h : Wf s) {i : Nat} (hi : i < 200) : sW s i ≤ 99 := h.2.2.2.2.1 i hi
theorem Wf.setB {s : Sg} (h : Wf s) {b c v : Nat} (hc : c < 8) (hv : okB (sP s).1 (sM s).1 c v) : Wf (uB s (tSet 8 (sB s) b c v)) := ⟨h.1, h.2.1, h.2.2.1.set hc hv, h.2.2.2.1, h.2.2.2.2.1, h.2.2.2.2.2⟩
theorem Wf.setP {s : Sg} (h : Wf s) {p c v : Nat} : Wf (uP s (tSet 2 (sP s) p c v)) := ⟨h.1, h.2.1, h.2.2.1, h.2.2.2.1, h.2.2.2.2.1, h.2.2.2.2.2⟩
theorem Wf.pay {s : Sg} (h : Wf s) {p c : Nat} : Wf (payS s p c) := h.setP
theorem Wf.place {s : Sg} (h : Wf s) {b m i : Nat} (hm : m < (sM s).1) (hi : i < 200) : Wf (placeS s b m i) := by
  have h1 := h.setB (b := b) (c := 1) (v := m) (by decide) hm
  have h2 := h1.setB (b := b) (c := 2) (v := i) (by decide) hi
  exact h2.setB (b := b) (c := 6) (v := sW s i) (by decide) (h.w hi)
theorem Wf.lft {s : Sg} (h : Wf s) {b : Nat} : Wf (lftS s b) := Wf.pay (h.setB (c := 5) (v := 1) (by decide) (show 1 ≤ 3 by decide))
theorem bkF_lt {B : Tb} {m h b : Nat} (e : bkF B m h = some b) : b < B.1 := (fnd_lt _ e).1
theorem fre_in {B : Tb} {m : Nat} : ∀ (n h i : Nat), fre B m n h = some i → h ≤ i ∧ i < h + n
  | 0, h, i, e => by simp [fre] at e
  | n + 1, h, i, e => by
    by_cases q : bkF B m h = none
    · simp only [fre, q, if_true] at e; cases e; omega
    · simp only [fre, if_neg q] at e
      have := fre_in n (h + 1) i e
      omega
theorem Wf.cry {s : Sg} (h : Wf s) {b : Nat} (hb : b < (sB s).1) : Wf (cryS s b) := by
  unfold cryS
  have hn := h.n
  cases e : fre (sB s) (tGet 8 (sB s) b 1) (min (sN s + 9) 199 - sN s) (sN s + 1) with
  | none => exact h.setB (c := 5) (v := 2) (by decide) (show 2 ≤ 3 by decide)
  | some i =>
    have := fre_in _ _ _ e
    exact h.place (h.b hb).2.1 (by omega)
theorem Wf.inc {s : Sg} (h : Wf s) {b : Nat} : Wf (incB s b) := h.setB (c := 7) (by decide) trivial
theorem Wf.cau {s : Sg} (h : Wf s) {b : Nat} : Wf (cauS s b) := by
  unfold cauS
  cases caus s b with
  | none => exact ⟨h.1, h.2.1, h.2.2.1, h.2.2.2.1, h.2.2.2.2.1, h.2.2.2.2.2⟩
  | some p => exact Wf.pay h.setP
theorem cau_B (s : Sg) (b : Nat) : sB (cauS s b) = sB s ∧ sN (cauS s b) = sN s ∧ sM (cauS s b) = sM s ∧ sW (cauS s b) = sW s ∧ sV (cauS s b) = sV s := by
  unfold cauS
  cases caus s b <;> exact ⟨rfl, rfl, rfl, rfl, rfl⟩
theorem cry_B (s : Sg) (b : Nat) : (sB (cryS s b)).1 = (sB s).1 ∧ sN (cryS s b) = sN s ∧ sM (cryS s b) = sM s ∧ sW (cryS s b) = sW s ∧ sV (cryS s b) = sV s := by
  unfold cryS
  cases fre (sB s) (tGet 8 (sB s) b 1) (min (sN s + 9) 199 - sN s) (sN s + 1) <;> exact ⟨rfl, rfl, rfl, rfl, rfl⟩
theorem Wf.stb {s : Sg} (h : Wf s) {b : Nat} (hb : b < (sB s).1) : Wf (stbS s b) := Wf.cry (Wf.inc h.cau) (by show b < (sB (cauS s b)).1; rw [(cau_B s b).1]; exact hb)
theorem stb_B (s : Sg) (b : Nat) : (sB (stbS s b)).1 = (sB s).1 ∧ sN (stbS s b) = sN s ∧ sM (stbS s b) = sM s ∧ sW (stbS s b) = sW s ∧ sV (stbS s b) = sV s := by
  have h1 := cry_B (incB (cauS s b) b) b
  have h2 := cau_B s b
  refine ⟨h1.1.trans (by show (sB (cauS s b)).1 = _; rw [h2.1]), h1.2.1.trans h2.2.1, h1.2.2.1.trans h2.2.2.1, h1.2.2.2.1.trans h2.2.2.2.1, h1.2.2.2.2.trans h2.2.2.2.2⟩
theorem stp_B (q : Sg × Nat) (b : Nat) : (sB (stpB q b).1).1 = (sB q.1).1 ∧ sN (stpB q b).1 = sN q.1 ∧ sM (stpB q b).1 = sM q.1 ∧ sW (stpB q b).1 = sW q.1 ∧ sV (stpB q b).1 = sV q.1 := by
  unfold stpB
  split
  · split
    · exact stb_B q.1 b
    · exact ⟨rfl, rfl, rfl, rfl, rfl⟩
  · exact ⟨rfl, rfl, rfl, rfl, rfl⟩
theorem Wf.stp {q : Sg × Nat} (h : Wf q.1) {b : Nat} (hb : b < (sB q.1).1) : Wf (stpB q b).1 := by
  unfold stpB
  split
  · split
    · exact h.stb hb
    · exact h.lft
  · exact h
theorem psB_B (s : Sg) : ∀ n, (sB (psB n s).1).1 = (sB s).1 ∧ sN (psB n s).1 = sN s ∧ sM (psB n s).1 = sM s ∧ sW (psB n s).1 = sW s ∧ sV (psB n s).1 = sV s
  | 0 => ⟨rfl, rfl, rfl, rfl, rfl⟩
  | n + 1 => by
    have h1 := psB_B s n
    have h2 := stp_B (psB n s) n
    exact ⟨h2.1.trans h1.1, h2.2.1.trans h1.2.1, h2.2.2.1.trans h1.2.2.1, h2.2.2.2.1.trans h1.2.2.2.1, h2.2.2.2.2.trans h1.2.2.2.2⟩
theorem Wf.xpsB {s : Sg} (h : Wf s) : ∀ n, n ≤ (sB s).1 → Wf (psB n s).1
  | 0, _ => h
  | n + 1, hn => Wf.stp (Wf.xpsB h n (by omega)) (by rw [(psB_B s n).1]; omega)
theorem nxA_lt (V : Tb) (h : Nat) : ∀ n v, (nxA V h n).1 = some v → v < n
  | 0, v, e => by simp [nxA] at e
  | n + 1, v, e => by
    unfold nxA at e
    split at e
    · cases e; omega
    · have := nxA_lt V h n v e; omega
theorem nxA_le (V : Tb) (h : Nat) : ∀ n, (nxA V h n).2 ≤ h + 1
  | 0 => Nat.le_refl _
  | n + 1 => by
    have := nxA_le V h n
    unfold nxA
    split
    · show tGet 5 V n 4 ≤ h + 1
      omega
    · exact this
theorem nxt_lt {V : Tb} {h v : Nat} (e : nxt V h = some v) : v < V.1 := nxA_lt V h _ v e
theorem Wf.mv {M : Tb} {nP fr to mu who : Nat} (h : WfT 3 5 (okM nP) M) (hf : fr < M.1) (ht : to < M.1) (hw : who < nP) (h1 : tGet 3 M to 1 + mu ≤ 12) (h2 : mu ≤ tGet 3 M fr 1) : WfT 3 5 (okM nP) (mvM M fr to mu who) := by
  unfold mvM
  have hfr : tGet 3 M fr 1 ≤ 12 := h.2 fr hf 1 (by decide)
  refine WfT.set (WfT.set (WfT.set h (by decide) (show _ ≤ 12 by omega)) (by decide) (show _ ≤ 12 from ?_)) (by decide) (show _ ∨ _ from Or.inr hw)
  rw [get_set (by decide) (by decide)]
  split
  · omega
  · exact h1
theorem Wf.xclM {s : Sg} (h : Wf s) {v : Nat} (hv : v < (sV s).1) : Wf (clM s v) := by
  have hw := h.v hv
  unfold clM
  split
  · exact ⟨h.1, h.2.1, h.2.2.1, h.2.2.2.1.del, h.2.2.2.2.1, h.2.2.2.2.2⟩
  · next q =>
    exact ⟨Wf.mv h.1 hw.2.1 hw.2.2.1 hw.1 (by omega) (by omega), h.2.1, h.2.2.1, h.2.2.2.1.del, h.2.2.2.2.1, h.2.2.2.2.2⟩
theorem clM_B (s : Sg) (v : Nat) : sB (clM s v) = sB s ∧ sN (clM s v) = sN s ∧ sW (clM s v) = sW s ∧ sV (clM s v) = tDel 5 (sV s) v ∧ sX (clM s v) = sX s := by
  unfold clM
  split <;> exact ⟨rfl, rfl, rfl, rfl, rfl⟩
theorem Wf.xclo : ∀ (n : Nat) {s : Sg} (_ : Wf s) (h : Nat), Wf (clo n s h)
  | 0, s, hs, h => hs
  | n + 1, s, hs, h => by
    unfold clo
    cases e : nxt (sV s) h with
    | none => exact hs
    | some v => exact Wf.xclo n (hs.xclM (nxt_lt e)) h
theorem clo_B : ∀ (n : Nat) (s : Sg) (h : Nat), sB (clo n s h) = sB s ∧ sN (clo n s h) = sN s ∧ sW (clo n s h) = sW s ∧ sX (clo n s h) = sX s
  | 0, s, h => ⟨rfl, rfl, rfl, rfl⟩
  | n + 1, s, h => by
    unfold clo
    cases e : nxt (sV s) h with
    | none => exact ⟨rfl, rfl, rfl, rfl⟩
    | some v =>
      have h1 := clo_B n (clM s v) h
      have h2 := clM_B s v
      exact ⟨h1.1.trans h2.1, h1.2.1.trans h2.2.1, h1.2.2.1.trans h2.2.2.1, h1.2.2.2.trans h2.2.2.2.2⟩
theorem psC_N (s : Sg) : sN (psC s).1 = sN s := (psB_B _ _).2.1.trans (clo_B 10 s (sN s)).2.1
theorem Wf.xpsC {s : Sg} (h : Wf s) : Wf (psC s).1 := Wf.xpsB (Wf.xclo 10 h (sN s)) _ (Nat.le_refl _)
theorem Wf.xpsH {s : Sg} (h : Wf s) (hn : sN s < 199) : Wf (psH s).1 := by
  have h1 := Wf.xpsC h
  refine ⟨h1.1, h1.2.1, h1.2.2.1, h1.2.2.2.1, h1.2.2.2.2.1, ?_⟩
  show sN (psC s).1 + 1 ≤ 199
  rw [psC_N]; omega
theorem caus_lt {s : Sg} (h : Wf s) {b p : Nat} (hb : b < (sB s).1) (e : caus s b = some p) : p < (sP s).1 := by
  have hw := h.b hb
  have hm := h.m hw.2.1
  unfold caus at e
  split at e
  · split at e
    · cases e; exact hw.1
    · cases e
  · unfold noO at e
    split at e
    · cases e
    · next q => cases e; exact hm.2.2.resolve_left q
theorem brn_lt {s : Sg} (h : Wf s) {m r : Nat} (hm : m < (sM s).1) : brn (sM s) m r ≤ 2000 := by
  have := (h.m hm).1
  unfold brn
  have := Nat.min_le_right ((tGet 3 (sM s) m 0 * 100 + tGet 3 (sM s) m 1 * 150) / max r 2) (tGet 3 (sM s) m 0 * 10)
  omega
theorem lim_i {ld r : Nat} (hl : ld ≤ 2000) (hr : r ≤ 60) : (if nI 60 - nI (ld / 20) - nI (r / 2) < nI 10 then nI 10 else nI 60 - nI (ld / 20) - nI (r / 2)) = nI (limN ld r) := by
  have e1 : (nI 60 - nI (ld / 20)).toInt = (60 : Int) - ((ld / 20 : Nat) : Int) := by
    have := pk_sub_toInt (a := 60) (b := ld / 20) (by omega) (by omega)
    simpa using this
  have e2 : (nI 60 - nI (ld / 20) - nI (r / 2)).toInt = (60 : Int) - ((ld / 20 : Nat) : Int) - ((r / 2 : Nat) : Int) := by
    have hb : (nI (r / 2)).toInt = ((r / 2 : Nat) : Int) := nI_toInt (by omega)
    rw [Int32.toInt_sub, e1, hb, Int.bmod_eq_of_le (by omega) (by omega)]
  by_cases q : 60 - ld / 20 - r / 2 < 10
  · rw [if_pos]
    · rw [limN, Nat.max_eq_left (by omega)]
    · rw [iC_ltn (by omega), e2]; omega
  · rw [if_neg]
    · rw [limN, Nat.max_eq_right (by omega), ← Int32.toInt_inj, e2, nI_toInt (by omega)]; omega
    · rw [iC_ltn (by omega), e2]; omega
theorem limN_le (ld r : Nat) : limN ld r ≤ 60 := by
  unfold limN
  have : max 10 (60 - ld / 20 - r / 2) ≤ 60 := Nat.max_le.mpr ⟨by omega, by omega⟩
  exact this
