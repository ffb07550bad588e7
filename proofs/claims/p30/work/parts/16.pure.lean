def Out (R R' : Nat → Nat) : Prop := ∀ j, 535 ≤ j → R' j = R j
theorem Out.rf {R : Nat → Nat} : Out R R := fun _ _ => rfl
theorem sum_eq {f g : Nat → Nat} : ∀ n, (∀ r, r < n → f r = g r) → sumN f n = sumN g n
  | 0, _ => rfl
  | n + 1, h => by rw [sumN, sumN, sum_eq n (fun r hr => h r (by omega)), h n (by omega)]
theorem sum_one {f g : Nat → Nat} {b d : Nat} : ∀ n, b < n → (∀ r, r < n → r ≠ b → f r = g r) → f b = g b + d → sumN f n = sumN g n + d
  | 0, hb, _, _ => absurd hb (Nat.not_lt_zero _)
  | n + 1, hb, h, e => by
    rw [sumN, sumN]
    by_cases q : b = n
    · subst q
      rw [sum_eq b (fun r hr => h r (by omega) (by omega)), e]; omega
    · rw [sum_one n (by omega) (fun r hr => h r (by omega)) e, h n (by omega) (by omega)]; omega
theorem cnt_eq {p q : Nat → Bool} : ∀ n, (∀ r, r < n → p r = q r) → cntN p n = cntN q n
  | 0, _ => rfl
  | n + 1, h => by rw [cntN, cntN, cnt_eq n (fun r hr => h r (by omega)), h n (by omega)]
def canM (s : Sg) (v : Nat) : Bool := decide (tGet 5 (sV s) v 3 ≤ tGet 3 (sM s) (tGet 5 (sV s) v 1) 1 ∧ tGet 3 (sM s) (tGet 5 (sV s) v 2) 1 + tGet 5 (sV s) v 3 ≤ 12)
def carM (s : Sg) (v mu : Nat) : Tb := tSet 3 (tSet 3 (sM s) (tGet 5 (sV s) v 1) 1 (tGet 3 (sM s) (tGet 5 (sV s) v 1) 1 - mu)) (tGet 5 (sV s) v 2) 1 (tGet 3 (tSet 3 (sM s) (tGet 5 (sV s) v 1) 1 (tGet 3 (sM s) (tGet 5 (sV s) v 1) 1 - mu)) (tGet 5 (sV s) v 2) 1 + mu)
def carS (s : Sg) (v : Nat) : Sg := uM s (carM s v (if canM s v = true then tGet 5 (sV s) v 3 else 0))
theorem tSet_same {cols r c : Nat} {t : Tb} : tSet cols t r c (tGet cols t r c) = t := by
  show (t.1, va_up t.2 (r * cols + c) (t.2 (r * cols + c))) = t
  have : va_up t.2 (r * cols + c) (t.2 (r * cols + c)) = t.2 := by
    funext j
    by_cases h : j = r * cols + c
    · rw [h, up_same]
    · rw [up_ne _ _ h]
  rw [this]
theorem carM_0 {s : Sg} {v : Nat} : carM s v 0 = sM s := by
  unfold carM
  rw [Nat.sub_zero, tSet_same, Nat.add_zero, tSet_same]
/-- what the reference does to one move, done and not done -/
def mvA (s : Sg) (v : Nat) : Sg := payS (carS s v) (tGet 5 (sV s) v 0) (if canM s v = true then 5 + 2 * tGet 5 (sV s) v 3 else 5)
def mvB (s : Sg) (v : Nat) : Sg := uM (mvA s v) (tSet 3 (sM (mvA s v)) (tGet 5 (sV s) v 1) 2 (if canM s v = true then tGet 5 (sV s) v 0 else tGet 3 (sM (mvA s v)) (tGet 5 (sV s) v 1) 2))
def mvC (s : Sg) (v : Nat) : Sg := uD (mvB s v) (sD (mvB s v) + (if canM s v = true then 1 else 0))
def mvD (s : Sg) (v : Nat) : Sg := uF (mvC s v) (sF (mvC s v) + (if canM s v = true then 0 else 1))
theorem mv_eq {s : Sg} {v : Nat} : uV (mvD s v) (tDel 5 (sV (mvD s v)) v) = clM s v := by
  unfold clM
  by_cases q : canM s v = true
  · have q2 := q
    simp only [canM, decide_eq_true_eq] at q2
    rw [if_neg (by omega)]
    unfold mvD mvC mvB mvA carS
    simp only [if_pos q]
    rfl
  · have q2 := q
    simp only [canM, decide_eq_true_eq] at q2
    rw [if_pos (by omega)]
    unfold mvD mvC mvB mvA carS
    simp only [if_neg q, carM_0, tSet_same]
    rfl
/-- more rounds than open moves change nothing -/
theorem clo_more : ∀ (n : Nat) (s : Sg) (t : Nat), (sV s).1 ≤ n → ∀ k, clo (n + k) s t = clo n s t
  | 0, s, t, h, k => by
    have e : nxt (sV s) t = none := by
      cases q : nxt (sV s) t with
      | none => rfl
      | some v => have := nxt_lt q; omega
    rw [clo_none e, clo_none e]
  | n + 1, s, t, h, k => by
    cases q : nxt (sV s) t with
    | none => rw [clo_none q, clo_none q]
    | some v =>
      have hv := nxt_lt q
      rw [show n + 1 + k = (n + k) + 1 by omega, clo_some q, clo_some q]
      refine clo_more n (clM s v) t ?_ k
      rw [(clM_B s v).2.2.2.1]
      show (sV s).1 - 1 ≤ n
      omega
theorem clo_step {s : Sg} (hn : (sV s).1 ≤ 10) {t v : Nat} (e : nxt (sV s) t = some v) : clo 10 (clM s v) t = clo 10 s t := by
  have hv := nxt_lt e
  have h1 : (sV (clM s v)).1 ≤ 9 := by rw [(clM_B s v).2.2.2.1]; show (sV s).1 - 1 ≤ 9; omega
  rw [show (10 : Nat) = 9 + 1 from rfl, clo_some e]
  exact clo_more 9 (clM s v) t h1 1
theorem del_ge {V : Tb} {v t : Nat} (h : ∀ q, q < V.1 → t ≤ tGet 5 V q 4) : ∀ q, q < (tDel 5 V v).1 → t ≤ tGet 5 (tDel 5 V v) q 4 := by
  intro q hq
  have hq' : q < V.1 - 1 := hq
  rw [get_del hq' (by decide)]
  split
  · exact h _ (by omega)
  · exact h _ (by omega)
def ftS (wt : Option Nat) (b ft k : Nat) : Nat := if wt = some b then k else ft
/-- what becomes of a booking whose half day it is -/
def lifS (s : Sg) (b : Nat) : Sg := if must s b = true then stbS s b else lftS s b
abbrev isNow (s : Sg) (b : Nat) : Prop := tGet 8 (sB s) b 5 = 0 ∧ tGet 8 (sB s) b 2 = sN s
theorem psB_t {s : Sg} {n : Nat} (h : isNow (psB n s).1 n) : (psB (n + 1) s).1 = lifS (psB n s).1 n := by
  rw [psB, stpB, if_pos h]
  unfold lifS
  split <;> rfl
theorem psB_f {s : Sg} {n : Nat} (h : ¬ isNow (psB n s).1 n) : psB (n + 1) s = psB n s := by
  rw [psB, stpB, if_neg h]
def fatP (wt : Option Nat) (s : Sg) (ft : Nat) : Nat → Nat
  | 0 => ft
  | n + 1 => if isNow (psB n s).1 n then ftS wt n (fatP wt s ft n) (fatN (psB n s).1 n) else fatP wt s ft n
theorem fatP_t {wt : Option Nat} {s : Sg} {ft n : Nat} (h : isNow (psB n s).1 n) : fatP wt s ft (n + 1) = ftS wt n (fatP wt s ft n) (fatN (psB n s).1 n) := if_pos h
theorem fatP_f {wt : Option Nat} {s : Sg} {ft n : Nat} (h : ¬ isNow (psB n s).1 n) : fatP wt s ft (n + 1) = fatP wt s ft n := if_neg h
def OKs (s : Sg) : Prop := Wf s ∧ (∀ q, q < (sV s).1 → sN s ≤ tGet 5 (sV s) q 4) ∧ (∀ b, b < (sB s).1 → tGet 8 (sB s) b 5 = 0 → sN s ≤ tGet 8 (sB s) b 2)
theorem cnt_zero {p : Nat → Bool} : ∀ n, (∀ r, r < n → p r = false) → cntN p n = 0
  | 0, _ => rfl
  | n + 1, h => by rw [cntN, cnt_zero n (fun r hr => h r (by omega)), h n (by omega)]; rfl
