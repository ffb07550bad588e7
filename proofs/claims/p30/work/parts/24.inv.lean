theorem f5 {x : Bool} (h : ¬ x = true) : x = false := by cases x <;> simp_all
/-! sums and counts over the rows of a table -/
def bn (x : Bool) : Nat := if x = true then 1 else 0
theorem bn_t {x : Bool} (h : x = true) : bn x = 1 := if_pos h
theorem bn_f {x : Bool} (h : x = false) : bn x = 0 := if_neg (by rw [h]; decide)
theorem bn_d1 {P : Prop} [Decidable P] (h : P) : bn (decide P) = 1 := bn_t (decide_eq_true h)
theorem bn_d0 {P : Prop} [Decidable P] (h : ¬ P) : bn (decide P) = 0 := bn_f (decide_eq_false h)
theorem sum_x {f g : Nat → Nat} {b : Nat} : ∀ n, b < n → (∀ r, r < n → r ≠ b → f r = g r) → sumN f n + g b = sumN g n + f b
  | 0, hb, _ => absurd hb (Nat.not_lt_zero _)
  | n + 1, hb, h => by
    rw [sumN, sumN]
    by_cases q : b = n
    · subst q
      have i := sum_eq b (fun r hr => h r (by omega) (by omega))
      omega
    · have i := sum_x n (by omega) (fun r hr => h r (by omega))
      have e := h n (by omega) (fun z => q z.symm)
      omega
theorem cnt_x {p q : Nat → Bool} {b : Nat} : ∀ n, b < n → (∀ r, r < n → r ≠ b → p r = q r) → cntN p n + bn (q b) = cntN q n + bn (p b)
  | 0, hb, _ => absurd hb (Nat.not_lt_zero _)
  | n + 1, hb, h => by
    show cntN p n + bn (p n) + bn (q b) = cntN q n + bn (q n) + bn (p b)
    by_cases z : b = n
    · subst z
      have i := cnt_eq b (fun r hr => h r (by omega) (by omega))
      omega
    · have i := cnt_x n (by omega) (fun r hr => h r (by omega))
      have e : bn (p n) = bn (q n) := congrArg bn (h n (by omega) (fun w => z w.symm))
      omega
def tSum (cols c : Nat) (t : Tb) : Nat := sumN (fun r => tGet cols t r c) t.1
def tCnt (cols c v : Nat) (t : Tb) : Nat := cntN (fun r => decide (tGet cols t r c = v)) t.1
section
variable {cols c c' r v w : Nat} {t : Tb}
theorem tSum_o (hc : c < cols) (hc' : c' < cols) (h : c ≠ c') : tSum cols c (tSet cols t r c' v) = tSum cols c t :=
  sum_eq t.1 (fun _ _ => get_set_c hc' hc h)
theorem tSum_s (hc : c < cols) (hr : r < t.1) : tSum cols c (tSet cols t r c v) + tGet cols t r c = tSum cols c t + v := by
  have h : sumN (fun q => tGet cols (tSet cols t r c v) q c) t.1 + tGet cols t r c = sumN (fun q => tGet cols t q c) t.1 + tGet cols (tSet cols t r c v) r c := sum_x (f := fun q => tGet cols (tSet cols t r c v) q c) (g := fun q => tGet cols t q c) t.1 hr (fun q _ hq => get_set_r hc hc hq)
  rw [get_set_s hc] at h
  exact h
theorem tSum_add (hc : c < cols) : tSum cols c (tAdd cols t) = tSum cols c t := by
  show sumN (fun q => tGet cols (tAdd cols t) q c) t.1 + tGet cols (tAdd cols t) t.1 c = _
  rw [get_add_n hc, Nat.add_zero]
  exact sum_eq t.1 (fun q hq => get_add_o hq hc)
theorem tCnt_o (hc : c < cols) (hc' : c' < cols) (h : c ≠ c') : tCnt cols c w (tSet cols t r c' v) = tCnt cols c w t :=
  cnt_eq t.1 (fun _ _ => by rw [get_set_c hc' hc h])
theorem tCnt_s (hc : c < cols) (hr : r < t.1) : tCnt cols c w (tSet cols t r c v) + bn (decide (tGet cols t r c = w)) = tCnt cols c w t + bn (decide (v = w)) := by
  have h : cntN (fun q => decide (tGet cols (tSet cols t r c v) q c = w)) t.1 + bn (decide (tGet cols t r c = w)) = cntN (fun q => decide (tGet cols t q c = w)) t.1 + bn (decide (tGet cols (tSet cols t r c v) r c = w)) := cnt_x (p := fun q => decide (tGet cols (tSet cols t r c v) q c = w)) (q := fun q => decide (tGet cols t q c = w)) t.1 hr (fun q _ hq => by show decide _ = decide _; rw [get_set_r hc hc hq])
  rw [get_set_s hc] at h
  exact h
theorem tCnt_add (hc : c < cols) : tCnt cols c w (tAdd cols t) = tCnt cols c w t + bn (decide (0 = w)) := by
  show cntN (fun q => decide (tGet cols (tAdd cols t) q c = w)) t.1 + bn (decide (tGet cols (tAdd cols t) t.1 c = w)) = _
  rw [get_add_n hc, cnt_eq t.1 (q := fun q => decide (tGet cols t q c = w)) (fun q hq => by rw [get_add_o hq hc])]
  rfl
end
theorem sum_add {f g : Nat → Nat} : ∀ n, sumN (fun m => f m + g m) n = sumN f n + sumN g n
  | 0 => rfl
  | n + 1 => by rw [sumN, sumN, sumN, sum_add n]; omega
theorem sum_zero {f : Nat → Nat} : ∀ n, (∀ r, r < n → f r = 0) → sumN f n = 0
  | 0, _ => rfl
  | n + 1, h => by rw [sumN, sum_zero n (fun r hr => h r (by omega)), h n (by omega)]
theorem sum_pt {k c : Nat} : ∀ n, k < n → sumN (fun m => if k = m then c else 0) n = c
  | 0, h => absurd h (Nat.not_lt_zero _)
  | n + 1, h => by
    rw [sumN]
    by_cases q : k = n
    · rw [if_pos q, sum_zero n (fun r hr => if_neg (by omega))]; omega
    · rw [if_neg q, sum_pt n (by omega)]; rfl
/-- the rows, counted by what stands in them -/
theorem cnt_split (f : Nat → Nat) (p : Nat → Bool) (M : Nat) : ∀ n, (∀ r, r < n → f r < M) → sumN (fun m => cntN (fun r => decide (f r = m) && p r) n) M = cntN p n
  | 0, _ => sum_zero M (fun _ _ => rfl)
  | n + 1, h => by
    show sumN (fun m => cntN (fun r => decide (f r = m) && p r) n + bn (decide (f n = m) && p n)) M = cntN p n + bn (p n)
    rw [sum_add, cnt_split f p M n (fun r hr => h r (by omega))]
    have e : sumN (fun m => bn (decide (f n = m) && p n)) M = sumN (fun m => if f n = m then bn (p n) else 0) M := sum_eq M (fun m _ => by
      by_cases q : f n = m
      · rw [if_pos q, decide_eq_true q, Bool.true_and]
      · rw [if_neg q, decide_eq_false q, Bool.false_and]; rfl)
    rw [e, sum_pt M (h n (by omega))]
theorem cnt_all {p : Nat → Bool} : ∀ n, (∀ r, r < n → p r = true) → cntN p n = n
  | 0, _ => rfl
  | n + 1, h => by rw [cntN, cnt_all n (fun r hr => h r (by omega)), if_pos (h n (by omega))]
theorem cnt_le {p : Nat → Bool} : ∀ n, cntN p n ≤ n
  | 0 => Nat.le_refl _
  | n + 1 => by
    have := cnt_le (p := p) n
    rw [cntN]
    split <;> omega
/-! the accounts -/
def sPaid (s : Sg) : Nat := tSum 2 0 (sP s)
def sCaus (s : Sg) : Nat := tSum 2 1 (sP s)
def sWait (s : Sg) : Nat := tSum 8 7 (sB s)
def sBlk (s : Sg) : Nat := tSum 3 1 (sM s)
def cT (s : Sg) (w : Nat) : Nat := tCnt 8 5 w (sB s)
def Acc (K : Nat) (s : Sg) : Prop := sWait s = sCaus s + sX s ∧ 30 * cT s 1 + 8 * sCaus s + 5 * (sD s + sF s) ≤ sPaid s ∧ sPaid s ≤ K + 4 * cT s 3
def Uq (s : Sg) : Prop := ∀ b c, b < (sB s).1 → c < (sB s).1 → tGet 8 (sB s) b 5 = 0 → tGet 8 (sB s) c 5 = 0 → tGet 8 (sB s) b 1 = tGet 8 (sB s) c 1 → tGet 8 (sB s) b 2 = tGet 8 (sB s) c 2 → b = c
def Mv (s : Sg) : Prop := ∀ v, v < (sV s).1 → ¬ tGet 5 (sV s) v 1 = tGet 5 (sV s) v 2
/-- what holds of every state, but for how many machines and members there are -/
def Iv (bl : Nat) (s : Sg) : Prop := OKs s ∧ Uq s ∧ Mv s ∧ Acc (1190 * sN s) s ∧ sBlk s = bl
theorem Acc.mono {K K' : Nat} {s : Sg} (h : Acc K s) (hk : K ≤ K') : Acc K' s := ⟨h.1, h.2.1, by have := h.2.2; omega⟩
theorem pay_paid {s : Sg} {p c : Nat} (hp : p < (sP s).1) : sPaid (payS s p c) = sPaid s + c ∧ sCaus (payS s p c) = sCaus s := by
  have h : tSum 2 0 (tSet 2 (sP s) p 0 (tGet 2 (sP s) p 0 + c)) + tGet 2 (sP s) p 0 = tSum 2 0 (sP s) + (tGet 2 (sP s) p 0 + c) := tSum_s (by decide) hp
  refine ⟨?_, tSum_o (by decide) (by decide) (by decide)⟩
  show tSum 2 0 (tSet 2 (sP s) p 0 (tGet 2 (sP s) p 0 + c)) = tSum 2 0 (sP s) + c
  omega
/-- a move is closed -/
theorem mv_blk {M : Tb} {fr to mu who : Nat} (hf : fr < M.1) (ht : to < M.1) (h2 : mu ≤ tGet 3 M fr 1) : tSum 3 1 (mvM M fr to mu who) = tSum 3 1 M := by
  have e1 : tSum 3 1 (tSet 3 M fr 1 (tGet 3 M fr 1 - mu)) + tGet 3 M fr 1 = tSum 3 1 M + (tGet 3 M fr 1 - mu) := tSum_s (by decide) hf
  have e2 := tSum_s (cols := 3) (c := 1) (r := to) (t := tSet 3 M fr 1 (tGet 3 M fr 1 - mu)) (v := tGet 3 (tSet 3 M fr 1 (tGet 3 M fr 1 - mu)) to 1 + mu) (by decide) ht
  unfold mvM
  rw [tSum_o (by decide) (by decide) (by decide)]
  omega
theorem Acc.xclM {K : Nat} {s : Sg} (h : Acc K s) (hw : Wf s) {v : Nat} (hv : v < (sV s).1) : Acc (K + 29) (clM s v) ∧ sBlk (clM s v) = sBlk s := by
  have q := hw.v hv
  obtain ⟨h1, h2, h3⟩ := h
  unfold clM
  split
  · have e := pay_paid (s := uV s (tDel 5 (sV s) v)) (p := tGet 5 (sV s) v 0) (c := 5) q.1
    refine ⟨⟨?_, ?_, ?_⟩, rfl⟩
    · show sWait s = sCaus (payS (uV s (tDel 5 (sV s) v)) (tGet 5 (sV s) v 0) 5) + sX s
      rw [e.2]; exact h1
    · show 30 * cT s 1 + 8 * sCaus (payS (uV s (tDel 5 (sV s) v)) (tGet 5 (sV s) v 0) 5) + 5 * (sD s + (sF s + 1)) ≤ sPaid (payS (uV s (tDel 5 (sV s) v)) (tGet 5 (sV s) v 0) 5)
      rw [e.1, e.2]
      show 30 * cT s 1 + 8 * sCaus s + 5 * (sD s + (sF s + 1)) ≤ sPaid s + 5
      omega
    · show sPaid (payS (uV s (tDel 5 (sV s) v)) (tGet 5 (sV s) v 0) 5) ≤ K + 29 + 4 * cT s 3
      rw [e.1]
      show sPaid s + 5 ≤ _
      omega
  · next hn =>
    have e := pay_paid (s := uM (uV s (tDel 5 (sV s) v)) (mvM (sM s) (tGet 5 (sV s) v 1) (tGet 5 (sV s) v 2) (tGet 5 (sV s) v 3) (tGet 5 (sV s) v 0))) (p := tGet 5 (sV s) v 0) (c := 5 + 2 * tGet 5 (sV s) v 3) q.1
    have eb := mv_blk (M := sM s) (who := tGet 5 (sV s) v 0) q.2.1 q.2.2.1 (mu := tGet 5 (sV s) v 3) (by omega)
    refine ⟨⟨?_, ?_, ?_⟩, eb⟩
    · show sWait s = sCaus (payS (uM (uV s (tDel 5 (sV s) v)) (mvM (sM s) (tGet 5 (sV s) v 1) (tGet 5 (sV s) v 2) (tGet 5 (sV s) v 3) (tGet 5 (sV s) v 0))) (tGet 5 (sV s) v 0) (5 + 2 * tGet 5 (sV s) v 3)) + sX s
      rw [e.2]; exact h1
    · show 30 * cT s 1 + 8 * sCaus (payS (uM (uV s (tDel 5 (sV s) v)) (mvM (sM s) (tGet 5 (sV s) v 1) (tGet 5 (sV s) v 2) (tGet 5 (sV s) v 3) (tGet 5 (sV s) v 0))) (tGet 5 (sV s) v 0) (5 + 2 * tGet 5 (sV s) v 3)) + 5 * (sD s + 1 + sF s) ≤ sPaid (payS (uM (uV s (tDel 5 (sV s) v)) (mvM (sM s) (tGet 5 (sV s) v 1) (tGet 5 (sV s) v 2) (tGet 5 (sV s) v 3) (tGet 5 (sV s) v 0))) (tGet 5 (sV s) v 0) (5 + 2 * tGet 5 (sV s) v 3))
      rw [e.1, e.2]
      show 30 * cT s 1 + 8 * sCaus s + 5 * (sD s + 1 + sF s) ≤ sPaid s + (5 + 2 * tGet 5 (sV s) v 3)
      omega
    · show sPaid (payS (uM (uV s (tDel 5 (sV s) v)) (mvM (sM s) (tGet 5 (sV s) v 1) (tGet 5 (sV s) v 2) (tGet 5 (sV s) v 3) (tGet 5 (sV s) v 0))) (tGet 5 (sV s) v 0) (5 + 2 * tGet 5 (sV s) v 3)) ≤ K + 29 + 4 * cT s 3
      rw [e.1]
      show sPaid s + (5 + 2 * tGet 5 (sV s) v 3) ≤ _
      omega
theorem Acc.xclo : ∀ (n : Nat) {K : Nat} {s : Sg} (_ : Acc K s) (_ : Wf s) (t : Nat), Acc (K + 29 * n) (clo n s t) ∧ sBlk (clo n s t) = sBlk s
  | 0, K, s, h, hw, t => ⟨h, rfl⟩
  | n + 1, K, s, h, hw, t => by
    cases e : nxt (sV s) t with
    | none => rw [clo_none e]; exact ⟨h.mono (by omega), rfl⟩
    | some v =>
      rw [clo_some e]
      have i := h.xclM hw (nxt_lt e)
      have j := Acc.xclo n i.1 (hw.xclM (nxt_lt e)) t
      exact ⟨j.1.mono (by omega), j.2.trans i.2⟩
theorem Mv.xclM {s : Sg} (h : Mv s) {v : Nat} : Mv (clM s v) := by
  intro q hq
  have e := (clM_B s v).2.2.2.1
  rw [e] at hq ⊢
  have hq : q < (sV s).1 - 1 := hq
  rw [get_del hq (by decide), get_del hq (by decide)]
  split
  · exact h _ (by omega)
  · exact h _ (by omega)
theorem Mv.xclo : ∀ (n : Nat) {s : Sg} (_ : Mv s) (t : Nat), Mv (clo n s t)
  | 0, s, h, t => h
  | n + 1, s, h, t => by
    cases e : nxt (sV s) t with
    | none => rw [clo_none e]; exact h
    | some v => rw [clo_some e]; exact Mv.xclo n h.xclM t
theorem Uq.same {s s' : Sg} (h : Uq s) (e : sB s' = sB s) : Uq s' := by
  unfold Uq
  rw [e]; exact h
/-- the booking's own row, behind its half day -/
theorem fnd_none {p : Nat → Bool} : ∀ n, fndN p n = none → ∀ i, i < n → p i = false
  | 0, _, i, hi => absurd hi (Nat.not_lt_zero _)
  | n + 1, h, i, hi => by
    cases e : fndN p n with
    | some j => simp [fndN, e] at h
    | none =>
      simp only [fndN, e] at h
      by_cases z : i = n
      · subst z
        by_cases hp : p i = true
        · rw [if_pos hp] at h; cases h
        · exact f5 hp
      · exact fnd_none n e i (by omega)
theorem fnd_min {p : Nat → Bool} : ∀ n j, fndN p n = some j → ∀ i, i < j → p i = false
  | 0, j, h, _, _ => by simp [fndN] at h
  | n + 1, j, h, i, hi => by
    cases e : fndN p n with
    | some k =>
      simp only [fndN, e] at h
      cases h
      exact fnd_min n _ e i hi
    | none =>
      simp only [fndN, e] at h
      by_cases hp : p n = true
      · rw [if_pos hp] at h; cases h
        exact fnd_none n e i hi
      · rw [if_neg hp] at h; cases h
theorem fre_no {B : Tb} {m : Nat} : ∀ (n h i : Nat), fre B m n h = some i → bkF B m i = none
  | 0, h, i, e => by simp [fre] at e
  | n + 1, h, i, e => by
    unfold fre at e
    split at e
    · next q => cases e; exact q
    · exact fre_no n (h + 1) i e
theorem bk_no {B : Tb} {m h : Nat} (e : bkF B m h = none) {r : Nat} (hr : r < B.1) (h5 : tGet 8 B r 5 = 0) (h1 : tGet 8 B r 1 = m) : tGet 8 B r 2 ≠ h := fun h2 => by
  have := fnd_none _ e r hr
  simp only [decide_eq_false_iff_not] at this
  exact this ⟨h5, h1, h2⟩
/-- one row changes, and it isn't booked then -/
theorem Uq.gone {s s' : Sg} (h : Uq s) {b : Nat} (hn : (sB s').1 = (sB s).1) (ho : ∀ r, r ≠ b → ∀ c, c < 8 → tGet 8 (sB s') r c = tGet 8 (sB s) r c) (hb : ¬ tGet 8 (sB s') b 5 = 0) : Uq s' := by
  intro x y hx hy hx5 hy5 h1 h2
  have nx : x ≠ b := fun z => hb (by rw [← z]; exact hx5)
  have ny : y ≠ b := fun z => hb (by rw [← z]; exact hy5)
  rw [hn] at hx hy
  rw [ho x nx 5 (by decide)] at hx5
  rw [ho y ny 5 (by decide)] at hy5
  rw [ho x nx 1 (by decide), ho y ny 1 (by decide)] at h1
  rw [ho x nx 2 (by decide), ho y ny 2 (by decide)] at h2
  exact h x y hx hy hx5 hy5 h1 h2
/-- one row changes, and its place was free -/
theorem Uq.new {s s' : Sg} (h : Uq s) {b m t : Nat} (hle : ∀ r, r < (sB s').1 → r ≠ b → r < (sB s).1) (ho : ∀ r, r < (sB s).1 → r ≠ b → ∀ c, c < 8 → tGet 8 (sB s') r c = tGet 8 (sB s) r c) (h1b : tGet 8 (sB s') b 1 = m) (h2b : tGet 8 (sB s') b 2 = t) (hf : ∀ r, r < (sB s).1 → r ≠ b → tGet 8 (sB s) r 5 = 0 → tGet 8 (sB s) r 1 = m → tGet 8 (sB s) r 2 ≠ t) : Uq s' := by
  intro x y hx hy hx5 hy5 h1 h2
  by_cases zx : x = b
  · by_cases zy : y = b
    · rw [zx, zy]
    · have ly := hle y hy zy
      rw [zx, h1b, ho y ly zy 1 (by decide)] at h1
      rw [zx, h2b, ho y ly zy 2 (by decide)] at h2
      rw [ho y ly zy 5 (by decide)] at hy5
      exact absurd h2.symm (hf y ly zy hy5 h1.symm)
  · have lx := hle x hx zx
    by_cases zy : y = b
    · rw [zy, h1b, ho x lx zx 1 (by decide)] at h1
      rw [zy, h2b, ho x lx zx 2 (by decide)] at h2
      rw [ho x lx zx 5 (by decide)] at hx5
      exact absurd h2 (hf x lx zx hx5 h1)
    · have ly := hle y hy zy
      rw [ho x lx zx 5 (by decide)] at hx5
      rw [ho y ly zy 5 (by decide)] at hy5
      rw [ho x lx zx 1 (by decide), ho y ly zy 1 (by decide)] at h1
      rw [ho x lx zx 2 (by decide), ho y ly zy 2 (by decide)] at h2
      exact h x y lx ly hx5 hy5 h1 h2
