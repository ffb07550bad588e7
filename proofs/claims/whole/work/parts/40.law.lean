theorem pq_a (b0 b1 b2 b3 b4 b5 b6 b7 : va_W) : (b0 ++ (b1 ++ (b2 ++ (b3 ++ (b4 ++ (b5 ++ (b6 ++ (b7)))))))).Perm ((b2 ++ (b3 ++ (b5 ++ (b6 ++ (b7))))) ++ (b0 ++ (b1 ++ (b4)))) :=
  perm8 b0 b1 b2 b3 b4 b5 b6 b7 [2, 3, 5, 6, 7, 0, 1, 4] (by decide) (by
    show b2 ++ (b3 ++ (b5 ++ (b6 ++ (b7 ++ (b0 ++ (b1 ++ (b4 ++ ([])))))))) = _
    rw [List.append_nil]
    simp only [List.append_assoc])
theorem pq_b (b0 b1 b2 b3 b4 b5 b6 b7 : va_W) : (b0 ++ (b1 ++ (b2 ++ (b3 ++ (b4 ++ (b5 ++ (b6 ++ (b7)))))))).Perm ((b2 ++ (b3 ++ (b4 ++ (b5 ++ (b6 ++ (b7)))))) ++ (b0 ++ (b1))) :=
  perm8 b0 b1 b2 b3 b4 b5 b6 b7 [2, 3, 4, 5, 6, 7, 0, 1] (by decide) (by
    show b2 ++ (b3 ++ (b4 ++ (b5 ++ (b6 ++ (b7 ++ (b0 ++ (b1 ++ ([])))))))) = _
    rw [List.append_nil]
    simp only [List.append_assoc])
theorem pq_c (b0 b1 b2 b3 b4 b5 b6 b7 : va_W) : (b0 ++ (b1 ++ (b2 ++ (b3 ++ (b4 ++ (b5 ++ (b6 ++ (b7)))))))).Perm ((b1 ++ (b2 ++ (b3 ++ (b4 ++ (b5 ++ (b6 ++ (b7))))))) ++ (b0)) :=
  perm8 b0 b1 b2 b3 b4 b5 b6 b7 [1, 2, 3, 4, 5, 6, 7, 0] (by decide) (by
    show b1 ++ (b2 ++ (b3 ++ (b4 ++ (b5 ++ (b6 ++ (b7 ++ (b0 ++ ([])))))))) = _
    rw [List.append_nil]
    simp only [List.append_assoc])
theorem pq_d (b0 b1 b2 b3 b4 b5 b6 b7 : va_W) : (b0 ++ (b1 ++ (b2 ++ (b3 ++ (b4 ++ (b5 ++ (b6 ++ (b7)))))))).Perm ((b1 ++ (b2 ++ (b3 ++ (b4 ++ (b6 ++ (b7)))))) ++ (b0 ++ (b5))) :=
  perm8 b0 b1 b2 b3 b4 b5 b6 b7 [1, 2, 3, 4, 6, 7, 0, 5] (by decide) (by
    show b1 ++ (b2 ++ (b3 ++ (b4 ++ (b6 ++ (b7 ++ (b0 ++ (b5 ++ ([])))))))) = _
    rw [List.append_nil]
    simp only [List.append_assoc])
theorem pq_e (b0 b1 b2 b3 b4 b5 b6 b7 : va_W) : (b0 ++ (b1 ++ (b2 ++ (b3 ++ (b4 ++ (b5 ++ (b6 ++ (b7)))))))).Perm ((b2 ++ (b3 ++ (b6 ++ (b7)))) ++ (b0 ++ (b1 ++ (b4 ++ (b5))))) :=
  perm8 b0 b1 b2 b3 b4 b5 b6 b7 [2, 3, 6, 7, 0, 1, 4, 5] (by decide) (by
    show b2 ++ (b3 ++ (b6 ++ (b7 ++ (b0 ++ (b1 ++ (b4 ++ (b5 ++ ([])))))))) = _
    rw [List.append_nil]
    simp only [List.append_assoc])
theorem pq_f (b0 b1 b2 b3 b4 b5 b6 b7 : va_W) : (b0 ++ (b1 ++ (b2 ++ (b3 ++ (b4 ++ (b5 ++ (b6 ++ (b7)))))))).Perm ((b3 ++ (b4 ++ (b5 ++ (b6 ++ (b7))))) ++ (b0 ++ (b1 ++ (b2)))) :=
  perm8 b0 b1 b2 b3 b4 b5 b6 b7 [3, 4, 5, 6, 7, 0, 1, 2] (by decide) (by
    show b3 ++ (b4 ++ (b5 ++ (b6 ++ (b7 ++ (b0 ++ (b1 ++ (b2 ++ ([])))))))) = _
    rw [List.append_nil]
    simp only [List.append_assoc])
theorem pq_g (b0 b1 b2 b3 b4 b5 b6 b7 : va_W) : (b0 ++ (b1 ++ (b2 ++ (b3 ++ (b4 ++ (b5 ++ (b6 ++ (b7)))))))).Perm ((b3 ++ (b5 ++ (b6 ++ (b7)))) ++ (b0 ++ (b1 ++ (b2 ++ (b4))))) :=
  perm8 b0 b1 b2 b3 b4 b5 b6 b7 [3, 5, 6, 7, 0, 1, 2, 4] (by decide) (by
    show b3 ++ (b5 ++ (b6 ++ (b7 ++ (b0 ++ (b1 ++ (b2 ++ (b4 ++ ([])))))))) = _
    rw [List.append_nil]
    simp only [List.append_assoc])
theorem pq_h (b0 b1 b2 b3 b4 b5 b6 b7 : va_W) : (b0 ++ (b1 ++ (b2 ++ (b3 ++ (b4 ++ (b5 ++ (b6 ++ (b7)))))))).Perm ((b2 ++ (b4 ++ (b5 ++ (b6 ++ (b7))))) ++ (b0 ++ (b1 ++ (b3)))) :=
  perm8 b0 b1 b2 b3 b4 b5 b6 b7 [2, 4, 5, 6, 7, 0, 1, 3] (by decide) (by
    show b2 ++ (b4 ++ (b5 ++ (b6 ++ (b7 ++ (b0 ++ (b1 ++ (b3 ++ ([])))))))) = _
    rw [List.append_nil]
    simp only [List.append_assoc])
theorem pq_m (b0 b1 b2 b3 b4 b5 b6 b7 : va_W) : (b0 ++ (b1 ++ (b2 ++ (b3 ++ (b4 ++ (b5 ++ (b6 ++ (b7)))))))).Perm ((b0 ++ (b1 ++ (b2 ++ (b3 ++ (b4 ++ (b5 ++ (b7))))))) ++ (b6)) :=
  perm8 b0 b1 b2 b3 b4 b5 b6 b7 [0, 1, 2, 3, 4, 5, 7, 6] (by decide) (by
    show b0 ++ (b1 ++ (b2 ++ (b3 ++ (b4 ++ (b5 ++ (b7 ++ (b6 ++ ([])))))))) = _
    rw [List.append_nil]
    simp only [List.append_assoc])
theorem pq_t (b0 b1 b2 b3 b4 b5 b6 b7 : va_W) : (b0 ++ (b1 ++ (b2 ++ (b3 ++ (b4 ++ (b5 ++ (b6 ++ (b7)))))))).Perm ((b0 ++ (b1 ++ (b2 ++ (b3 ++ (b4 ++ (b5)))))) ++ (b6 ++ (b7))) :=
  perm8 b0 b1 b2 b3 b4 b5 b6 b7 [0, 1, 2, 3, 4, 5, 6, 7] (by decide) (by
    show b0 ++ (b1 ++ (b2 ++ (b3 ++ (b4 ++ (b5 ++ (b6 ++ (b7 ++ ([])))))))) = _
    rw [List.append_nil]
    simp only [List.append_assoc])
def LCx (D : va_G) (tA : Nat → ClassId) (G : kCx) (n k b L : Nat) (xs : Nat → Int32) : Prop := kX D tA G cL_law 4 RL 9 326 ∧ (n ≤ (gR G).cells ∧ k ≤ (gR G).slots) ∧ va_X b L xs (gs G) (gs G).heap ∧ b < (gs G).heap.size ∧ ¬ gA G b ∧ L ≤ 3072
theorem aS_oks {s : Sg} {o : Option Sg} {v : Hs} {sn : Sg} {kp : Bool} {R : Nat → Nat} (h : RelM (aS s o) sn v kp R) : Wf (aS s o) := h.2.1.1
section
variable {tA : Nat → ClassId} {c : Nat} {a b f h x : Nat → Nat} {d : Nat → Nat → Nat} {kp kp' : Bool} {s s' s2 s2' : Sg} {v v' : Hs} {ch ch' : Nat → Nat} {len len' p p' : Nat} {t t' : Tb}
theorem fst_a : (clW c a b f h x kp' ++ (stW tA a s' ++ (hsW tA h d v'))).map Prod.fst = (clW c a b f h x kp ++ (stW tA a s ++ (hsW tA h d v))).map Prod.fst := by
  rw [List.map_append, List.map_append, List.map_append, List.map_append, st_fst, st_fst, hs_fst, hs_fst]; rfl
theorem fst_d : (clW c a b f h x kp' ++ (txW tA x ch' len' p' t')).map Prod.fst = (clW c a b f h x kp ++ (txW tA x ch len p t)).map Prod.fst := by
  rw [List.map_append, List.map_append, tx_fst, tx_fst]; rfl
theorem fst_e : (clW c a b f h x kp' ++ (stW tA a s' ++ (hsW tA h d v' ++ (txW tA x ch' len' p' t')))).map Prod.fst = (clW c a b f h x kp ++ (stW tA a s ++ (hsW tA h d v ++ (txW tA x ch len p t)))).map Prod.fst := by
  rw [List.map_append, List.map_append, List.map_append, List.map_append, List.map_append, List.map_append, st_fst, st_fst, hs_fst, hs_fst, tx_fst, tx_fst]; rfl
theorem fst_f : (clW c a b f h x kp' ++ (stW tA a s' ++ (stW tA b s2'))).map Prod.fst = (clW c a b f h x kp ++ (stW tA a s ++ (stW tA b s2))).map Prod.fst := by
  rw [List.map_append, List.map_append, List.map_append, List.map_append, st_fst, st_fst, st_fst, st_fst]; rfl
theorem fst_g : (clW c a b f h x kp' ++ (stW tA a s' ++ (stW tA b s2' ++ (hsW tA h d v')))).map Prod.fst = (clW c a b f h x kp ++ (stW tA a s ++ (stW tA b s2 ++ (hsW tA h d v)))).map Prod.fst := by
  rw [List.map_append, List.map_append, List.map_append, List.map_append, List.map_append, List.map_append, st_fst, st_fst, st_fst, st_fst, hs_fst, hs_fst]; rfl
theorem fst_h : (clW c a b f h x kp' ++ (stW tA a s' ++ (stW tA f s2'))).map Prod.fst = (clW c a b f h x kp ++ (stW tA a s ++ (stW tA f s2))).map Prod.fst := by
  rw [List.map_append, List.map_append, List.map_append, List.map_append, st_fst, st_fst, st_fst, st_fst]; rfl
end
set_option maxHeartbeats 4000000 in
set_option maxRecDepth 100000 in
theorem law_addMachine {l : Launch} {D : va_G} {tA : Nat → ClassId} {G : kCx} {n k b0 L : Nat} {xs : Nat → Int32} (hC : LCx D tA G n k b0 L xs) {c : Nat} {a b f h x m : Nat → Nat} {d : Nat → Nat → Nat} {i : Nat} (hi : i + 6 ≤ L)  (s sn s3 : Sg) (v : Hs) (kp : Bool) (len : Nat) (ch : Nat → Nat) (p : Nat) (t : Tb) (T : Nat → Nat) (y : MX) (hinv : LInv s sn s3 v kp len ch p t T y) (ih : ∀ (s sn s3 : Sg) (v : Hs) (kp : Bool) (len : Nat) (ch : Nat → Nat) (p : Nat) (t : Tb) (T : Nat → Nat) (y : MX), LInv s sn s3 v kp len ch p t T y → J l D G n k (lawW tA c a b f h x m d s sn s3 v kp len ch p t T y) [(3, .int (nI i)), (0, .ref b0), (1, .ref c), (2, .ref (m 0))] 939 []) : J l D G n k (lawW tA c a b f h x m d s sn s3 v kp len ch p t T y) [(3, .int (nI i)), (0, .ref b0), (1, .ref c), (2, .ref (m 0))] 156 [] := by
  obtain ⟨X, h0, hX, hbl, hbA, hL⟩ := hC
  obtain ⟨hrel, hsn, hs3, hh, hl, hch, hp, ht, hT⟩ := hinv
  have hw := hrel.2.1.1
  have hnx := hrel.2.2.1
  have hsz := hrel.2.2.2.1
  refine j_aload_n (pc := 156) X dL_law_156 rfl (q := 2) rfl ?_
  refine j_aload_n (pc := 157) X dL_law_157 rfl (q := 1) rfl ?_
  refine j_iload_n (pc := 158) X dL_law_158 rfl (q := 0) rfl ?_
  refine j_iconst (pc := 159) X (v := nI 1) dL_law_159 (by decide) ?_
  refine j_iadd (pc := 160) X (v := nI (i + 1)) dL_law_160 (nI_add _ _) ?_
  refine j_sld (pc := 161) X hX hbl hbA (i := i + 1) (by omega) (by omega) dL_law_161 ?_
  refine j_aload_n (pc := 162) X dL_law_162 rfl (q := 1) rfl ?_
  refine j_iload_n (pc := 163) X dL_law_163 rfl (q := 0) rfl ?_
  refine j_iconst (pc := 164) X (v := nI 2) dL_law_164 (by decide) ?_
  refine j_iadd (pc := 165) X (v := nI (i + 2)) dL_law_165 (nI_add _ _) ?_
  refine j_sld (pc := 166) X hX hbl hbA (i := i + 2) (by omega) (by omega) dL_law_166 ?_
  refine j_lperm (pq_a _ _ _ _ _ _ _ _) ?_
  refine j_cxV (pc := 167) X (As := [.int (xs (i + 1)), .int (xs (i + 2))]) (st := []) (c_X4_addMachine l D tA c a b f h x kp s d v (xs (i + 1)) (xs (i + 2)) hw hnx hsz hh) cd_X4_addMachine wm_L_13 0 rfl rfl rfl fst_a ⟨Nat.le_of_ble_eq_true rfl, Nat.le_of_ble_eq_true rfl⟩ h0 rfl (Nat.le_of_ble_eq_true rfl) dL_law_167 ?_
  refine j_lperm (pq_a _ _ _ _ _ _ _ _).symm ?_
  refine j_aload_n (pc := 170) X dL_law_170 rfl (q := 3) rfl ?_
  refine j_aload_n (pc := 171) X dL_law_171 rfl (q := 1) rfl ?_
  refine j_iload_n (pc := 172) X dL_law_172 rfl (q := 0) rfl ?_
  refine j_iconst (pc := 173) X (v := nI 1) dL_law_173 (by decide) ?_
  refine j_iadd (pc := 174) X (v := nI (i + 1)) dL_law_174 (nI_add _ _) ?_
  refine j_sld (pc := 175) X hX hbl hbA (i := i + 1) (by omega) (by omega) dL_law_175 ?_
  refine j_aload_n (pc := 176) X dL_law_176 rfl (q := 1) rfl ?_
  refine j_iload_n (pc := 177) X dL_law_177 rfl (q := 0) rfl ?_
  refine j_iconst (pc := 178) X (v := nI 2) dL_law_178 (by decide) ?_
  refine j_iadd (pc := 179) X (v := nI (i + 2)) dL_law_179 (nI_add _ _) ?_
  refine j_sld (pc := 180) X hX hbl hbA (i := i + 2) (by omega) (by omega) dL_law_180 ?_
  refine j_lperm (pq_m _ _ _ _ _ _ _ _) ?_
  refine j_cyV (pc := 181) X (As := [.int (xs (i + 1)), .int (xs (i + 2))]) (st := [_]) (c_X5_addMachine l D tA m y s sn v kp len (xs (i + 1)) (xs (i + 2)) hrel) cd_X5_addMachine wm_L_17 0 rfl rfl rfl (fun _ => rfl) ⟨Nat.le_of_ble_eq_true rfl, Nat.le_of_ble_eq_true rfl⟩ h0 rfl (Nat.le_of_ble_eq_true rfl) dL_law_181 (fun u hu => ?_)
  refine j_lperm (pq_m _ _ _ _ _ _ _ _).symm ?_
  refine j_icmp_eq_t (pc := 184) X (tgt := 939) dL_law_184 (by decide) rfl ?_
  exact ih (aS s (oAddMachine s (xs (i + 1)) (xs (i + 2))).2) sn s3 (aH v s (oAddMachine s (xs (i + 1)) (xs (i + 2))).2) kp len ch p t T u ⟨hu, hsn, hs3, hh_push hh hw _, hl, hch, hp, ht, hT⟩
set_option maxHeartbeats 4000000 in
set_option maxRecDepth 100000 in
theorem law_addMember {l : Launch} {D : va_G} {tA : Nat → ClassId} {G : kCx} {n k b0 L : Nat} {xs : Nat → Int32} (hC : LCx D tA G n k b0 L xs) {c : Nat} {a b f h x m : Nat → Nat} {d : Nat → Nat → Nat} {i : Nat} (hi : i + 6 ≤ L)  (s sn s3 : Sg) (v : Hs) (kp : Bool) (len : Nat) (ch : Nat → Nat) (p : Nat) (t : Tb) (T : Nat → Nat) (y : MX) (hinv : LInv s sn s3 v kp len ch p t T y) (ih : ∀ (s sn s3 : Sg) (v : Hs) (kp : Bool) (len : Nat) (ch : Nat → Nat) (p : Nat) (t : Tb) (T : Nat → Nat) (y : MX), LInv s sn s3 v kp len ch p t T y → J l D G n k (lawW tA c a b f h x m d s sn s3 v kp len ch p t T y) [(3, .int (nI i)), (0, .ref b0), (1, .ref c), (2, .ref (m 0))] 939 []) : J l D G n k (lawW tA c a b f h x m d s sn s3 v kp len ch p t T y) [(3, .int (nI i)), (0, .ref b0), (1, .ref c), (2, .ref (m 0))] 189 [] := by
  obtain ⟨X, h0, hX, hbl, hbA, hL⟩ := hC
  obtain ⟨hrel, hsn, hs3, hh, hl, hch, hp, ht, hT⟩ := hinv
  have hw := hrel.2.1.1
  have hnx := hrel.2.2.1
  have hsz := hrel.2.2.2.1
  refine j_aload_n (pc := 189) X dL_law_189 rfl (q := 2) rfl ?_
  refine j_lperm (pq_a _ _ _ _ _ _ _ _) ?_
  refine j_cxV (pc := 190) X (As := []) (st := []) (c_X4_addMember l D tA c a b f h x kp s d v  hw hnx hsz hh) cd_X4_addMember wm_L_18 0 rfl rfl rfl fst_a ⟨Nat.le_of_ble_eq_true rfl, Nat.le_of_ble_eq_true rfl⟩ h0 rfl (Nat.le_of_ble_eq_true rfl) dL_law_190 ?_
  refine j_lperm (pq_a _ _ _ _ _ _ _ _).symm ?_
  refine j_aload_n (pc := 193) X dL_law_193 rfl (q := 3) rfl ?_
  refine j_lperm (pq_m _ _ _ _ _ _ _ _) ?_
  refine j_cyV (pc := 194) X (As := []) (st := [_]) (c_X5_addMember l D tA m y s sn v kp len  hrel) cd_X5_addMember wm_L_22 0 rfl rfl rfl (fun _ => rfl) ⟨Nat.le_of_ble_eq_true rfl, Nat.le_of_ble_eq_true rfl⟩ h0 rfl (Nat.le_of_ble_eq_true rfl) dL_law_194 (fun u hu => ?_)
  refine j_lperm (pq_m _ _ _ _ _ _ _ _).symm ?_
  refine j_icmp_eq_t (pc := 197) X (tgt := 939) dL_law_197 (by decide) rfl ?_
  exact ih (aS s (oAddMember s ).2) sn s3 (aH v s (oAddMember s ).2) kp len ch p t T u ⟨hu, hsn, hs3, hh_push hh hw _, hl, hch, hp, ht, hT⟩
set_option maxHeartbeats 4000000 in
set_option maxRecDepth 100000 in
theorem law_setWind {l : Launch} {D : va_G} {tA : Nat → ClassId} {G : kCx} {n k b0 L : Nat} {xs : Nat → Int32} (hC : LCx D tA G n k b0 L xs) {c : Nat} {a b f h x m : Nat → Nat} {d : Nat → Nat → Nat} {i : Nat} (hi : i + 6 ≤ L)  (s sn s3 : Sg) (v : Hs) (kp : Bool) (len : Nat) (ch : Nat → Nat) (p : Nat) (t : Tb) (T : Nat → Nat) (y : MX) (hinv : LInv s sn s3 v kp len ch p t T y) (ih : ∀ (s sn s3 : Sg) (v : Hs) (kp : Bool) (len : Nat) (ch : Nat → Nat) (p : Nat) (t : Tb) (T : Nat → Nat) (y : MX), LInv s sn s3 v kp len ch p t T y → J l D G n k (lawW tA c a b f h x m d s sn s3 v kp len ch p t T y) [(3, .int (nI i)), (0, .ref b0), (1, .ref c), (2, .ref (m 0))] 939 []) : J l D G n k (lawW tA c a b f h x m d s sn s3 v kp len ch p t T y) [(3, .int (nI i)), (0, .ref b0), (1, .ref c), (2, .ref (m 0))] 202 [] := by
  obtain ⟨X, h0, hX, hbl, hbA, hL⟩ := hC
  obtain ⟨hrel, hsn, hs3, hh, hl, hch, hp, ht, hT⟩ := hinv
  have hw := hrel.2.1.1
  have hnx := hrel.2.2.1
  have hsz := hrel.2.2.2.1
  refine j_aload_n (pc := 202) X dL_law_202 rfl (q := 2) rfl ?_
  refine j_aload_n (pc := 203) X dL_law_203 rfl (q := 1) rfl ?_
  refine j_iload_n (pc := 204) X dL_law_204 rfl (q := 0) rfl ?_
  refine j_iconst (pc := 205) X (v := nI 1) dL_law_205 (by decide) ?_
  refine j_iadd (pc := 206) X (v := nI (i + 1)) dL_law_206 (nI_add _ _) ?_
  refine j_sld (pc := 207) X hX hbl hbA (i := i + 1) (by omega) (by omega) dL_law_207 ?_
  refine j_aload_n (pc := 208) X dL_law_208 rfl (q := 1) rfl ?_
  refine j_iload_n (pc := 209) X dL_law_209 rfl (q := 0) rfl ?_
  refine j_iconst (pc := 210) X (v := nI 2) dL_law_210 (by decide) ?_
  refine j_iadd (pc := 211) X (v := nI (i + 2)) dL_law_211 (nI_add _ _) ?_
  refine j_sld (pc := 212) X hX hbl hbA (i := i + 2) (by omega) (by omega) dL_law_212 ?_
  refine j_lperm (pq_a _ _ _ _ _ _ _ _) ?_
  refine j_cxV (pc := 213) X (As := [.int (xs (i + 1)), .int (xs (i + 2))]) (st := []) (c_X4_setWind l D tA c a b f h x kp s d v (xs (i + 1)) (xs (i + 2)) hw hnx hsz hh) cd_X4_setWind wm_L_23 0 rfl rfl rfl fst_a ⟨Nat.le_of_ble_eq_true rfl, Nat.le_of_ble_eq_true rfl⟩ h0 rfl (Nat.le_of_ble_eq_true rfl) dL_law_213 ?_
  refine j_lperm (pq_a _ _ _ _ _ _ _ _).symm ?_
  refine j_aload_n (pc := 216) X dL_law_216 rfl (q := 3) rfl ?_
  refine j_aload_n (pc := 217) X dL_law_217 rfl (q := 1) rfl ?_
  refine j_iload_n (pc := 218) X dL_law_218 rfl (q := 0) rfl ?_
  refine j_iconst (pc := 219) X (v := nI 1) dL_law_219 (by decide) ?_
  refine j_iadd (pc := 220) X (v := nI (i + 1)) dL_law_220 (nI_add _ _) ?_
  refine j_sld (pc := 221) X hX hbl hbA (i := i + 1) (by omega) (by omega) dL_law_221 ?_
  refine j_aload_n (pc := 222) X dL_law_222 rfl (q := 1) rfl ?_
  refine j_iload_n (pc := 223) X dL_law_223 rfl (q := 0) rfl ?_
  refine j_iconst (pc := 224) X (v := nI 2) dL_law_224 (by decide) ?_
  refine j_iadd (pc := 225) X (v := nI (i + 2)) dL_law_225 (nI_add _ _) ?_
  refine j_sld (pc := 226) X hX hbl hbA (i := i + 2) (by omega) (by omega) dL_law_226 ?_
  refine j_lperm (pq_m _ _ _ _ _ _ _ _) ?_
  refine j_cyV (pc := 227) X (As := [.int (xs (i + 1)), .int (xs (i + 2))]) (st := [_]) (c_X5_setWind l D tA m y s sn v kp len (xs (i + 1)) (xs (i + 2)) hrel) cd_X5_setWind wm_L_26 0 rfl rfl rfl (fun _ => rfl) ⟨Nat.le_of_ble_eq_true rfl, Nat.le_of_ble_eq_true rfl⟩ h0 rfl (Nat.le_of_ble_eq_true rfl) dL_law_227 (fun u hu => ?_)
  refine j_lperm (pq_m _ _ _ _ _ _ _ _).symm ?_
  refine j_icmp_eq_t (pc := 230) X (tgt := 939) dL_law_230 (by decide) rfl ?_
  exact ih (aS s (oSetWind s (xs (i + 1)) (xs (i + 2))).2) sn s3 (aH v s (oSetWind s (xs (i + 1)) (xs (i + 2))).2) kp len ch p t T u ⟨hu, hsn, hs3, hh_push hh hw _, hl, hch, hp, ht, hT⟩
set_option maxHeartbeats 4000000 in
set_option maxRecDepth 100000 in
theorem law_book {l : Launch} {D : va_G} {tA : Nat → ClassId} {G : kCx} {n k b0 L : Nat} {xs : Nat → Int32} (hC : LCx D tA G n k b0 L xs) {c : Nat} {a b f h x m : Nat → Nat} {d : Nat → Nat → Nat} {i : Nat} (hi : i + 6 ≤ L)  (s sn s3 : Sg) (v : Hs) (kp : Bool) (len : Nat) (ch : Nat → Nat) (p : Nat) (t : Tb) (T : Nat → Nat) (y : MX) (hinv : LInv s sn s3 v kp len ch p t T y) (ih : ∀ (s sn s3 : Sg) (v : Hs) (kp : Bool) (len : Nat) (ch : Nat → Nat) (p : Nat) (t : Tb) (T : Nat → Nat) (y : MX), LInv s sn s3 v kp len ch p t T y → J l D G n k (lawW tA c a b f h x m d s sn s3 v kp len ch p t T y) [(3, .int (nI i)), (0, .ref b0), (1, .ref c), (2, .ref (m 0))] 939 []) : J l D G n k (lawW tA c a b f h x m d s sn s3 v kp len ch p t T y) [(3, .int (nI i)), (0, .ref b0), (1, .ref c), (2, .ref (m 0))] 235 [] := by
  obtain ⟨X, h0, hX, hbl, hbA, hL⟩ := hC
  obtain ⟨hrel, hsn, hs3, hh, hl, hch, hp, ht, hT⟩ := hinv
  have hw := hrel.2.1.1
  have hnx := hrel.2.2.1
  have hsz := hrel.2.2.2.1
  refine j_aload_n (pc := 235) X dL_law_235 rfl (q := 2) rfl ?_
  refine j_aload_n (pc := 236) X dL_law_236 rfl (q := 1) rfl ?_
  refine j_iload_n (pc := 237) X dL_law_237 rfl (q := 0) rfl ?_
  refine j_iconst (pc := 238) X (v := nI 1) dL_law_238 (by decide) ?_
  refine j_iadd (pc := 239) X (v := nI (i + 1)) dL_law_239 (nI_add _ _) ?_
  refine j_sld (pc := 240) X hX hbl hbA (i := i + 1) (by omega) (by omega) dL_law_240 ?_
  refine j_aload_n (pc := 241) X dL_law_241 rfl (q := 1) rfl ?_
  refine j_iload_n (pc := 242) X dL_law_242 rfl (q := 0) rfl ?_
  refine j_iconst (pc := 243) X (v := nI 2) dL_law_243 (by decide) ?_
  refine j_iadd (pc := 244) X (v := nI (i + 2)) dL_law_244 (nI_add _ _) ?_
  refine j_sld (pc := 245) X hX hbl hbA (i := i + 2) (by omega) (by omega) dL_law_245 ?_
  refine j_aload_n (pc := 246) X dL_law_246 rfl (q := 1) rfl ?_
  refine j_iload_n (pc := 247) X dL_law_247 rfl (q := 0) rfl ?_
  refine j_iconst (pc := 248) X (v := nI 3) dL_law_248 (by decide) ?_
  refine j_iadd (pc := 249) X (v := nI (i + 3)) dL_law_249 (nI_add _ _) ?_
  refine j_sld (pc := 250) X hX hbl hbA (i := i + 3) (by omega) (by omega) dL_law_250 ?_
  refine j_aload_n (pc := 251) X dL_law_251 rfl (q := 1) rfl ?_
  refine j_iload_n (pc := 252) X dL_law_252 rfl (q := 0) rfl ?_
  refine j_iconst (pc := 253) X (v := nI 4) dL_law_253 (by decide) ?_
  refine j_iadd (pc := 254) X (v := nI (i + 4)) dL_law_254 (nI_add _ _) ?_
  refine j_sld (pc := 255) X hX hbl hbA (i := i + 4) (by omega) (by omega) dL_law_255 ?_
  refine j_aload_n (pc := 256) X dL_law_256 rfl (q := 1) rfl ?_
  refine j_iload_n (pc := 257) X dL_law_257 rfl (q := 0) rfl ?_
  refine j_iconst (pc := 258) X (v := nI 5) dL_law_258 (by decide) ?_
  refine j_iadd (pc := 259) X (v := nI (i + 5)) dL_law_259 (nI_add _ _) ?_
  refine j_sld (pc := 260) X hX hbl hbA (i := i + 5) (by omega) (by omega) dL_law_260 ?_
  refine j_lperm (pq_a _ _ _ _ _ _ _ _) ?_
  refine j_cxV (pc := 261) X (As := [.int (xs (i + 1)), .int (xs (i + 2)), .int (xs (i + 3)), .int (xs (i + 4)), .int (xs (i + 5))]) (st := []) (c_X4_book l D tA c a b f h x kp s d v (xs (i + 1)) (xs (i + 2)) (xs (i + 3)) (xs (i + 4)) (xs (i + 5)) hw hnx hsz hh) cd_X4_book wm_L_27 0 rfl rfl rfl fst_a ⟨Nat.le_of_ble_eq_true rfl, Nat.le_of_ble_eq_true rfl⟩ h0 rfl (Nat.le_of_ble_eq_true rfl) dL_law_261 ?_
  refine j_lperm (pq_a _ _ _ _ _ _ _ _).symm ?_
  refine j_aload_n (pc := 264) X dL_law_264 rfl (q := 3) rfl ?_
  refine j_aload_n (pc := 265) X dL_law_265 rfl (q := 1) rfl ?_
  refine j_iload_n (pc := 266) X dL_law_266 rfl (q := 0) rfl ?_
  refine j_iconst (pc := 267) X (v := nI 1) dL_law_267 (by decide) ?_
  refine j_iadd (pc := 268) X (v := nI (i + 1)) dL_law_268 (nI_add _ _) ?_
  refine j_sld (pc := 269) X hX hbl hbA (i := i + 1) (by omega) (by omega) dL_law_269 ?_
  refine j_aload_n (pc := 270) X dL_law_270 rfl (q := 1) rfl ?_
  refine j_iload_n (pc := 271) X dL_law_271 rfl (q := 0) rfl ?_
  refine j_iconst (pc := 272) X (v := nI 2) dL_law_272 (by decide) ?_
  refine j_iadd (pc := 273) X (v := nI (i + 2)) dL_law_273 (nI_add _ _) ?_
  refine j_sld (pc := 274) X hX hbl hbA (i := i + 2) (by omega) (by omega) dL_law_274 ?_
  refine j_aload_n (pc := 275) X dL_law_275 rfl (q := 1) rfl ?_
  refine j_iload_n (pc := 276) X dL_law_276 rfl (q := 0) rfl ?_
  refine j_iconst (pc := 277) X (v := nI 3) dL_law_277 (by decide) ?_
  refine j_iadd (pc := 278) X (v := nI (i + 3)) dL_law_278 (nI_add _ _) ?_
  refine j_sld (pc := 279) X hX hbl hbA (i := i + 3) (by omega) (by omega) dL_law_279 ?_
  refine j_aload_n (pc := 280) X dL_law_280 rfl (q := 1) rfl ?_
  refine j_iload_n (pc := 281) X dL_law_281 rfl (q := 0) rfl ?_
  refine j_iconst (pc := 282) X (v := nI 4) dL_law_282 (by decide) ?_
  refine j_iadd (pc := 283) X (v := nI (i + 4)) dL_law_283 (nI_add _ _) ?_
  refine j_sld (pc := 284) X hX hbl hbA (i := i + 4) (by omega) (by omega) dL_law_284 ?_
  refine j_aload_n (pc := 285) X dL_law_285 rfl (q := 1) rfl ?_
  refine j_iload_n (pc := 286) X dL_law_286 rfl (q := 0) rfl ?_
  refine j_iconst (pc := 287) X (v := nI 5) dL_law_287 (by decide) ?_
  refine j_iadd (pc := 288) X (v := nI (i + 5)) dL_law_288 (nI_add _ _) ?_
  refine j_sld (pc := 289) X hX hbl hbA (i := i + 5) (by omega) (by omega) dL_law_289 ?_
  refine j_lperm (pq_m _ _ _ _ _ _ _ _) ?_
  refine j_cyV (pc := 290) X (As := [.int (xs (i + 1)), .int (xs (i + 2)), .int (xs (i + 3)), .int (xs (i + 4)), .int (xs (i + 5))]) (st := [_]) (c_X5_book l D tA m y s sn v kp len (xs (i + 1)) (xs (i + 2)) (xs (i + 3)) (xs (i + 4)) (xs (i + 5)) hrel) cd_X5_book wm_L_31 0 rfl rfl rfl (fun _ => rfl) ⟨Nat.le_of_ble_eq_true rfl, Nat.le_of_ble_eq_true rfl⟩ h0 rfl (Nat.le_of_ble_eq_true rfl) dL_law_290 (fun u hu => ?_)
  refine j_lperm (pq_m _ _ _ _ _ _ _ _).symm ?_
  refine j_icmp_eq_t (pc := 293) X (tgt := 939) dL_law_293 (by decide) rfl ?_
  exact ih (aS s (oBook s (xs (i + 1)) (xs (i + 2)) (xs (i + 3)) (xs (i + 4)) (xs (i + 5))).2) sn s3 (aH v s (oBook s (xs (i + 1)) (xs (i + 2)) (xs (i + 3)) (xs (i + 4)) (xs (i + 5))).2) kp len ch p t T u ⟨hu, hsn, hs3, hh_push hh hw _, hl, hch, hp, ht, hT⟩
set_option maxHeartbeats 4000000 in
set_option maxRecDepth 100000 in
theorem law_cancel {l : Launch} {D : va_G} {tA : Nat → ClassId} {G : kCx} {n k b0 L : Nat} {xs : Nat → Int32} (hC : LCx D tA G n k b0 L xs) {c : Nat} {a b f h x m : Nat → Nat} {d : Nat → Nat → Nat} {i : Nat} (hi : i + 6 ≤ L)  (s sn s3 : Sg) (v : Hs) (kp : Bool) (len : Nat) (ch : Nat → Nat) (p : Nat) (t : Tb) (T : Nat → Nat) (y : MX) (hinv : LInv s sn s3 v kp len ch p t T y) (ih : ∀ (s sn s3 : Sg) (v : Hs) (kp : Bool) (len : Nat) (ch : Nat → Nat) (p : Nat) (t : Tb) (T : Nat → Nat) (y : MX), LInv s sn s3 v kp len ch p t T y → J l D G n k (lawW tA c a b f h x m d s sn s3 v kp len ch p t T y) [(3, .int (nI i)), (0, .ref b0), (1, .ref c), (2, .ref (m 0))] 939 []) : J l D G n k (lawW tA c a b f h x m d s sn s3 v kp len ch p t T y) [(3, .int (nI i)), (0, .ref b0), (1, .ref c), (2, .ref (m 0))] 298 [] := by
  obtain ⟨X, h0, hX, hbl, hbA, hL⟩ := hC
  obtain ⟨hrel, hsn, hs3, hh, hl, hch, hp, ht, hT⟩ := hinv
  have hw := hrel.2.1.1
  have hnx := hrel.2.2.1
  have hsz := hrel.2.2.2.1
  refine j_aload_n (pc := 298) X dL_law_298 rfl (q := 2) rfl ?_
  refine j_aload_n (pc := 299) X dL_law_299 rfl (q := 1) rfl ?_
  refine j_iload_n (pc := 300) X dL_law_300 rfl (q := 0) rfl ?_
  refine j_iconst (pc := 301) X (v := nI 1) dL_law_301 (by decide) ?_
  refine j_iadd (pc := 302) X (v := nI (i + 1)) dL_law_302 (nI_add _ _) ?_
  refine j_sld (pc := 303) X hX hbl hbA (i := i + 1) (by omega) (by omega) dL_law_303 ?_
  refine j_lperm (pq_a _ _ _ _ _ _ _ _) ?_
  refine j_cxV (pc := 304) X (As := [.int (xs (i + 1))]) (st := []) (c_X4_cancel l D tA c a b f h x kp s d v (xs (i + 1)) hw hnx hsz hh) cd_X4_cancel wm_L_32 0 rfl rfl rfl fst_a ⟨Nat.le_of_ble_eq_true rfl, Nat.le_of_ble_eq_true rfl⟩ h0 rfl (Nat.le_of_ble_eq_true rfl) dL_law_304 ?_
  refine j_lperm (pq_a _ _ _ _ _ _ _ _).symm ?_
  refine j_aload_n (pc := 307) X dL_law_307 rfl (q := 3) rfl ?_
  refine j_aload_n (pc := 308) X dL_law_308 rfl (q := 1) rfl ?_
  refine j_iload_n (pc := 309) X dL_law_309 rfl (q := 0) rfl ?_
  refine j_iconst (pc := 310) X (v := nI 1) dL_law_310 (by decide) ?_
  refine j_iadd (pc := 311) X (v := nI (i + 1)) dL_law_311 (nI_add _ _) ?_
  refine j_sld (pc := 312) X hX hbl hbA (i := i + 1) (by omega) (by omega) dL_law_312 ?_
  refine j_lperm (pq_m _ _ _ _ _ _ _ _) ?_
  refine j_cyV (pc := 313) X (As := [.int (xs (i + 1))]) (st := [_]) (c_X5_cancel l D tA m y s sn v kp len (xs (i + 1)) hrel) cd_X5_cancel wm_L_36 0 rfl rfl rfl (fun _ => rfl) ⟨Nat.le_of_ble_eq_true rfl, Nat.le_of_ble_eq_true rfl⟩ h0 rfl (Nat.le_of_ble_eq_true rfl) dL_law_313 (fun u hu => ?_)
  refine j_lperm (pq_m _ _ _ _ _ _ _ _).symm ?_
  refine j_icmp_eq_t (pc := 316) X (tgt := 939) dL_law_316 (by decide) rfl ?_
  exact ih (aS s (oCancel s (xs (i + 1))).2) sn s3 (aH v s (oCancel s (xs (i + 1))).2) kp len ch p t T u ⟨hu, hsn, hs3, hh_push hh hw _, hl, hch, hp, ht, hT⟩
set_option maxHeartbeats 4000000 in
set_option maxRecDepth 100000 in
theorem law_swap {l : Launch} {D : va_G} {tA : Nat → ClassId} {G : kCx} {n k b0 L : Nat} {xs : Nat → Int32} (hC : LCx D tA G n k b0 L xs) {c : Nat} {a b f h x m : Nat → Nat} {d : Nat → Nat → Nat} {i : Nat} (hi : i + 6 ≤ L)  (s sn s3 : Sg) (v : Hs) (kp : Bool) (len : Nat) (ch : Nat → Nat) (p : Nat) (t : Tb) (T : Nat → Nat) (y : MX) (hinv : LInv s sn s3 v kp len ch p t T y) (ih : ∀ (s sn s3 : Sg) (v : Hs) (kp : Bool) (len : Nat) (ch : Nat → Nat) (p : Nat) (t : Tb) (T : Nat → Nat) (y : MX), LInv s sn s3 v kp len ch p t T y → J l D G n k (lawW tA c a b f h x m d s sn s3 v kp len ch p t T y) [(3, .int (nI i)), (0, .ref b0), (1, .ref c), (2, .ref (m 0))] 939 []) : J l D G n k (lawW tA c a b f h x m d s sn s3 v kp len ch p t T y) [(3, .int (nI i)), (0, .ref b0), (1, .ref c), (2, .ref (m 0))] 321 [] := by
  obtain ⟨X, h0, hX, hbl, hbA, hL⟩ := hC
  obtain ⟨hrel, hsn, hs3, hh, hl, hch, hp, ht, hT⟩ := hinv
  have hw := hrel.2.1.1
  have hnx := hrel.2.2.1
  have hsz := hrel.2.2.2.1
  refine j_aload_n (pc := 321) X dL_law_321 rfl (q := 2) rfl ?_
  refine j_aload_n (pc := 322) X dL_law_322 rfl (q := 1) rfl ?_
  refine j_iload_n (pc := 323) X dL_law_323 rfl (q := 0) rfl ?_
  refine j_iconst (pc := 324) X (v := nI 1) dL_law_324 (by decide) ?_
  refine j_iadd (pc := 325) X (v := nI (i + 1)) dL_law_325 (nI_add _ _) ?_
  refine j_sld (pc := 326) X hX hbl hbA (i := i + 1) (by omega) (by omega) dL_law_326 ?_
  refine j_aload_n (pc := 327) X dL_law_327 rfl (q := 1) rfl ?_
  refine j_iload_n (pc := 328) X dL_law_328 rfl (q := 0) rfl ?_
  refine j_iconst (pc := 329) X (v := nI 2) dL_law_329 (by decide) ?_
  refine j_iadd (pc := 330) X (v := nI (i + 2)) dL_law_330 (nI_add _ _) ?_
  refine j_sld (pc := 331) X hX hbl hbA (i := i + 2) (by omega) (by omega) dL_law_331 ?_
  refine j_lperm (pq_a _ _ _ _ _ _ _ _) ?_
  refine j_cxV (pc := 332) X (As := [.int (xs (i + 1)), .int (xs (i + 2))]) (st := []) (c_X4_swap l D tA c a b f h x kp s d v (xs (i + 1)) (xs (i + 2)) hw hnx hsz hh) cd_X4_swap wm_L_37 0 rfl rfl rfl fst_a ⟨Nat.le_of_ble_eq_true rfl, Nat.le_of_ble_eq_true rfl⟩ h0 rfl (Nat.le_of_ble_eq_true rfl) dL_law_332 ?_
  refine j_lperm (pq_a _ _ _ _ _ _ _ _).symm ?_
  refine j_aload_n (pc := 335) X dL_law_335 rfl (q := 3) rfl ?_
  refine j_aload_n (pc := 336) X dL_law_336 rfl (q := 1) rfl ?_
  refine j_iload_n (pc := 337) X dL_law_337 rfl (q := 0) rfl ?_
  refine j_iconst (pc := 338) X (v := nI 1) dL_law_338 (by decide) ?_
  refine j_iadd (pc := 339) X (v := nI (i + 1)) dL_law_339 (nI_add _ _) ?_
  refine j_sld (pc := 340) X hX hbl hbA (i := i + 1) (by omega) (by omega) dL_law_340 ?_
  refine j_aload_n (pc := 341) X dL_law_341 rfl (q := 1) rfl ?_
  refine j_iload_n (pc := 342) X dL_law_342 rfl (q := 0) rfl ?_
  refine j_iconst (pc := 343) X (v := nI 2) dL_law_343 (by decide) ?_
  refine j_iadd (pc := 344) X (v := nI (i + 2)) dL_law_344 (nI_add _ _) ?_
  refine j_sld (pc := 345) X hX hbl hbA (i := i + 2) (by omega) (by omega) dL_law_345 ?_
  refine j_lperm (pq_m _ _ _ _ _ _ _ _) ?_
  refine j_cyV (pc := 346) X (As := [.int (xs (i + 1)), .int (xs (i + 2))]) (st := [_]) (c_X5_swap l D tA m y s sn v kp len (xs (i + 1)) (xs (i + 2)) hrel) cd_X5_swap wm_L_40 0 rfl rfl rfl (fun _ => rfl) ⟨Nat.le_of_ble_eq_true rfl, Nat.le_of_ble_eq_true rfl⟩ h0 rfl (Nat.le_of_ble_eq_true rfl) dL_law_346 (fun u hu => ?_)
  refine j_lperm (pq_m _ _ _ _ _ _ _ _).symm ?_
  refine j_icmp_eq_t (pc := 349) X (tgt := 939) dL_law_349 (by decide) rfl ?_
  exact ih (aS s (oSwap s (xs (i + 1)) (xs (i + 2))).2) sn s3 (aH v s (oSwap s (xs (i + 1)) (xs (i + 2))).2) kp len ch p t T u ⟨hu, hsn, hs3, hh_push hh hw _, hl, hch, hp, ht, hT⟩
set_option maxHeartbeats 4000000 in
set_option maxRecDepth 100000 in
theorem law_order {l : Launch} {D : va_G} {tA : Nat → ClassId} {G : kCx} {n k b0 L : Nat} {xs : Nat → Int32} (hC : LCx D tA G n k b0 L xs) {c : Nat} {a b f h x m : Nat → Nat} {d : Nat → Nat → Nat} {i : Nat} (hi : i + 6 ≤ L)  (s sn s3 : Sg) (v : Hs) (kp : Bool) (len : Nat) (ch : Nat → Nat) (p : Nat) (t : Tb) (T : Nat → Nat) (y : MX) (hinv : LInv s sn s3 v kp len ch p t T y) (ih : ∀ (s sn s3 : Sg) (v : Hs) (kp : Bool) (len : Nat) (ch : Nat → Nat) (p : Nat) (t : Tb) (T : Nat → Nat) (y : MX), LInv s sn s3 v kp len ch p t T y → J l D G n k (lawW tA c a b f h x m d s sn s3 v kp len ch p t T y) [(3, .int (nI i)), (0, .ref b0), (1, .ref c), (2, .ref (m 0))] 939 []) : J l D G n k (lawW tA c a b f h x m d s sn s3 v kp len ch p t T y) [(3, .int (nI i)), (0, .ref b0), (1, .ref c), (2, .ref (m 0))] 354 [] := by
  obtain ⟨X, h0, hX, hbl, hbA, hL⟩ := hC
  obtain ⟨hrel, hsn, hs3, hh, hl, hch, hp, ht, hT⟩ := hinv
  have hw := hrel.2.1.1
  have hnx := hrel.2.2.1
  have hsz := hrel.2.2.2.1
  refine j_aload_n (pc := 354) X dL_law_354 rfl (q := 2) rfl ?_
  refine j_aload_n (pc := 355) X dL_law_355 rfl (q := 1) rfl ?_
  refine j_iload_n (pc := 356) X dL_law_356 rfl (q := 0) rfl ?_
  refine j_iconst (pc := 357) X (v := nI 1) dL_law_357 (by decide) ?_
  refine j_iadd (pc := 358) X (v := nI (i + 1)) dL_law_358 (nI_add _ _) ?_
  refine j_sld (pc := 359) X hX hbl hbA (i := i + 1) (by omega) (by omega) dL_law_359 ?_
  refine j_aload_n (pc := 360) X dL_law_360 rfl (q := 1) rfl ?_
  refine j_iload_n (pc := 361) X dL_law_361 rfl (q := 0) rfl ?_
  refine j_iconst (pc := 362) X (v := nI 2) dL_law_362 (by decide) ?_
  refine j_iadd (pc := 363) X (v := nI (i + 2)) dL_law_363 (nI_add _ _) ?_
  refine j_sld (pc := 364) X hX hbl hbA (i := i + 2) (by omega) (by omega) dL_law_364 ?_
  refine j_aload_n (pc := 365) X dL_law_365 rfl (q := 1) rfl ?_
  refine j_iload_n (pc := 366) X dL_law_366 rfl (q := 0) rfl ?_
  refine j_iconst (pc := 367) X (v := nI 3) dL_law_367 (by decide) ?_
  refine j_iadd (pc := 368) X (v := nI (i + 3)) dL_law_368 (nI_add _ _) ?_
  refine j_sld (pc := 369) X hX hbl hbA (i := i + 3) (by omega) (by omega) dL_law_369 ?_
  refine j_aload_n (pc := 370) X dL_law_370 rfl (q := 1) rfl ?_
  refine j_iload_n (pc := 371) X dL_law_371 rfl (q := 0) rfl ?_
  refine j_iconst (pc := 372) X (v := nI 4) dL_law_372 (by decide) ?_
  refine j_iadd (pc := 373) X (v := nI (i + 4)) dL_law_373 (nI_add _ _) ?_
  refine j_sld (pc := 374) X hX hbl hbA (i := i + 4) (by omega) (by omega) dL_law_374 ?_
  refine j_aload_n (pc := 375) X dL_law_375 rfl (q := 1) rfl ?_
  refine j_iload_n (pc := 376) X dL_law_376 rfl (q := 0) rfl ?_
  refine j_iconst (pc := 377) X (v := nI 5) dL_law_377 (by decide) ?_
  refine j_iadd (pc := 378) X (v := nI (i + 5)) dL_law_378 (nI_add _ _) ?_
  refine j_sld (pc := 379) X hX hbl hbA (i := i + 5) (by omega) (by omega) dL_law_379 ?_
  refine j_lperm (pq_a _ _ _ _ _ _ _ _) ?_
  refine j_cxV (pc := 380) X (As := [.int (xs (i + 1)), .int (xs (i + 2)), .int (xs (i + 3)), .int (xs (i + 4)), .int (xs (i + 5))]) (st := []) (c_X4_order l D tA c a b f h x kp s d v (xs (i + 1)) (xs (i + 2)) (xs (i + 3)) (xs (i + 4)) (xs (i + 5)) hw hnx hsz hh) cd_X4_order wm_L_41 0 rfl rfl rfl fst_a ⟨Nat.le_of_ble_eq_true rfl, Nat.le_of_ble_eq_true rfl⟩ h0 rfl (Nat.le_of_ble_eq_true rfl) dL_law_380 ?_
  refine j_lperm (pq_a _ _ _ _ _ _ _ _).symm ?_
  refine j_aload_n (pc := 383) X dL_law_383 rfl (q := 3) rfl ?_
  refine j_aload_n (pc := 384) X dL_law_384 rfl (q := 1) rfl ?_
  refine j_iload_n (pc := 385) X dL_law_385 rfl (q := 0) rfl ?_
  refine j_iconst (pc := 386) X (v := nI 1) dL_law_386 (by decide) ?_
  refine j_iadd (pc := 387) X (v := nI (i + 1)) dL_law_387 (nI_add _ _) ?_
  refine j_sld (pc := 388) X hX hbl hbA (i := i + 1) (by omega) (by omega) dL_law_388 ?_
  refine j_aload_n (pc := 389) X dL_law_389 rfl (q := 1) rfl ?_
  refine j_iload_n (pc := 390) X dL_law_390 rfl (q := 0) rfl ?_
  refine j_iconst (pc := 391) X (v := nI 2) dL_law_391 (by decide) ?_
  refine j_iadd (pc := 392) X (v := nI (i + 2)) dL_law_392 (nI_add _ _) ?_
  refine j_sld (pc := 393) X hX hbl hbA (i := i + 2) (by omega) (by omega) dL_law_393 ?_
  refine j_aload_n (pc := 394) X dL_law_394 rfl (q := 1) rfl ?_
  refine j_iload_n (pc := 395) X dL_law_395 rfl (q := 0) rfl ?_
  refine j_iconst (pc := 396) X (v := nI 3) dL_law_396 (by decide) ?_
  refine j_iadd (pc := 397) X (v := nI (i + 3)) dL_law_397 (nI_add _ _) ?_
  refine j_sld (pc := 398) X hX hbl hbA (i := i + 3) (by omega) (by omega) dL_law_398 ?_
  refine j_aload_n (pc := 399) X dL_law_399 rfl (q := 1) rfl ?_
  refine j_iload_n (pc := 400) X dL_law_400 rfl (q := 0) rfl ?_
  refine j_iconst (pc := 401) X (v := nI 4) dL_law_401 (by decide) ?_
  refine j_iadd (pc := 402) X (v := nI (i + 4)) dL_law_402 (nI_add _ _) ?_
  refine j_sld (pc := 403) X hX hbl hbA (i := i + 4) (by omega) (by omega) dL_law_403 ?_
  refine j_aload_n (pc := 404) X dL_law_404 rfl (q := 1) rfl ?_
  refine j_iload_n (pc := 405) X dL_law_405 rfl (q := 0) rfl ?_
  refine j_iconst (pc := 406) X (v := nI 5) dL_law_406 (by decide) ?_
  refine j_iadd (pc := 407) X (v := nI (i + 5)) dL_law_407 (nI_add _ _) ?_
  refine j_sld (pc := 408) X hX hbl hbA (i := i + 5) (by omega) (by omega) dL_law_408 ?_
  refine j_lperm (pq_m _ _ _ _ _ _ _ _) ?_
  refine j_cyV (pc := 409) X (As := [.int (xs (i + 1)), .int (xs (i + 2)), .int (xs (i + 3)), .int (xs (i + 4)), .int (xs (i + 5))]) (st := [_]) (c_X5_order l D tA m y s sn v kp len (xs (i + 1)) (xs (i + 2)) (xs (i + 3)) (xs (i + 4)) (xs (i + 5)) hrel) cd_X5_order wm_L_44 0 rfl rfl rfl (fun _ => rfl) ⟨Nat.le_of_ble_eq_true rfl, Nat.le_of_ble_eq_true rfl⟩ h0 rfl (Nat.le_of_ble_eq_true rfl) dL_law_409 (fun u hu => ?_)
  refine j_lperm (pq_m _ _ _ _ _ _ _ _).symm ?_
  refine j_icmp_eq_t (pc := 412) X (tgt := 939) dL_law_412 (by decide) rfl ?_
  exact ih (aS s (oOrder s (xs (i + 1)) (xs (i + 2)) (xs (i + 3)) (xs (i + 4)) (xs (i + 5))).2) sn s3 (aH v s (oOrder s (xs (i + 1)) (xs (i + 2)) (xs (i + 3)) (xs (i + 4)) (xs (i + 5))).2) kp len ch p t T u ⟨hu, hsn, hs3, hh_push hh hw _, hl, hch, hp, ht, hT⟩
set_option maxHeartbeats 4000000 in
set_option maxRecDepth 100000 in
theorem law_takeBack {l : Launch} {D : va_G} {tA : Nat → ClassId} {G : kCx} {n k b0 L : Nat} {xs : Nat → Int32} (hC : LCx D tA G n k b0 L xs) {c : Nat} {a b f h x m : Nat → Nat} {d : Nat → Nat → Nat} {i : Nat} (hi : i + 6 ≤ L)  (s sn s3 : Sg) (v : Hs) (kp : Bool) (len : Nat) (ch : Nat → Nat) (p : Nat) (t : Tb) (T : Nat → Nat) (y : MX) (hinv : LInv s sn s3 v kp len ch p t T y) (ih : ∀ (s sn s3 : Sg) (v : Hs) (kp : Bool) (len : Nat) (ch : Nat → Nat) (p : Nat) (t : Tb) (T : Nat → Nat) (y : MX), LInv s sn s3 v kp len ch p t T y → J l D G n k (lawW tA c a b f h x m d s sn s3 v kp len ch p t T y) [(3, .int (nI i)), (0, .ref b0), (1, .ref c), (2, .ref (m 0))] 939 []) : J l D G n k (lawW tA c a b f h x m d s sn s3 v kp len ch p t T y) [(3, .int (nI i)), (0, .ref b0), (1, .ref c), (2, .ref (m 0))] 417 [] := by
  obtain ⟨X, h0, hX, hbl, hbA, hL⟩ := hC
  obtain ⟨hrel, hsn, hs3, hh, hl, hch, hp, ht, hT⟩ := hinv
  have hw := hrel.2.1.1
  have hnx := hrel.2.2.1
  have hsz := hrel.2.2.2.1
  refine j_aload_n (pc := 417) X dL_law_417 rfl (q := 2) rfl ?_
  refine j_aload_n (pc := 418) X dL_law_418 rfl (q := 1) rfl ?_
  refine j_iload_n (pc := 419) X dL_law_419 rfl (q := 0) rfl ?_
  refine j_iconst (pc := 420) X (v := nI 1) dL_law_420 (by decide) ?_
  refine j_iadd (pc := 421) X (v := nI (i + 1)) dL_law_421 (nI_add _ _) ?_
  refine j_sld (pc := 422) X hX hbl hbA (i := i + 1) (by omega) (by omega) dL_law_422 ?_
  refine j_lperm (pq_a _ _ _ _ _ _ _ _) ?_
  refine j_cxV (pc := 423) X (As := [.int (xs (i + 1))]) (st := []) (c_X4_takeBack l D tA c a b f h x kp s d v (xs (i + 1)) hw hnx hsz hh) cd_X4_takeBack wm_L_45 0 rfl rfl rfl fst_a ⟨Nat.le_of_ble_eq_true rfl, Nat.le_of_ble_eq_true rfl⟩ h0 rfl (Nat.le_of_ble_eq_true rfl) dL_law_423 ?_
  refine j_lperm (pq_a _ _ _ _ _ _ _ _).symm ?_
  refine j_aload_n (pc := 426) X dL_law_426 rfl (q := 3) rfl ?_
  refine j_aload_n (pc := 427) X dL_law_427 rfl (q := 1) rfl ?_
  refine j_iload_n (pc := 428) X dL_law_428 rfl (q := 0) rfl ?_
  refine j_iconst (pc := 429) X (v := nI 1) dL_law_429 (by decide) ?_
  refine j_iadd (pc := 430) X (v := nI (i + 1)) dL_law_430 (nI_add _ _) ?_
  refine j_sld (pc := 431) X hX hbl hbA (i := i + 1) (by omega) (by omega) dL_law_431 ?_
  refine j_lperm (pq_m _ _ _ _ _ _ _ _) ?_
  refine j_cyV (pc := 432) X (As := [.int (xs (i + 1))]) (st := [_]) (c_X5_takeBack l D tA m y s sn v kp len (xs (i + 1)) hrel) cd_X5_takeBack wm_L_48 0 rfl rfl rfl (fun _ => rfl) ⟨Nat.le_of_ble_eq_true rfl, Nat.le_of_ble_eq_true rfl⟩ h0 rfl (Nat.le_of_ble_eq_true rfl) dL_law_432 (fun u hu => ?_)
  refine j_lperm (pq_m _ _ _ _ _ _ _ _).symm ?_
  refine j_icmp_eq_t (pc := 435) X (tgt := 939) dL_law_435 (by decide) rfl ?_
  exact ih (aS s (oTakeBack s (xs (i + 1))).2) sn s3 (aH v s (oTakeBack s (xs (i + 1))).2) kp len ch p t T u ⟨hu, hsn, hs3, hh_push hh hw _, hl, hch, hp, ht, hT⟩
set_option maxHeartbeats 4000000 in
set_option maxRecDepth 100000 in
theorem law_pass {l : Launch} {D : va_G} {tA : Nat → ClassId} {G : kCx} {n k b0 L : Nat} {xs : Nat → Int32} (hC : LCx D tA G n k b0 L xs) {c : Nat} {a b f h x m : Nat → Nat} {d : Nat → Nat → Nat} {i : Nat} (hi : i + 6 ≤ L)  (s sn s3 : Sg) (v : Hs) (kp : Bool) (len : Nat) (ch : Nat → Nat) (p : Nat) (t : Tb) (T : Nat → Nat) (y : MX) (hinv : LInv s sn s3 v kp len ch p t T y) (ih : ∀ (s sn s3 : Sg) (v : Hs) (kp : Bool) (len : Nat) (ch : Nat → Nat) (p : Nat) (t : Tb) (T : Nat → Nat) (y : MX), LInv s sn s3 v kp len ch p t T y → J l D G n k (lawW tA c a b f h x m d s sn s3 v kp len ch p t T y) [(3, .int (nI i)), (0, .ref b0), (1, .ref c), (2, .ref (m 0))] 939 []) : J l D G n k (lawW tA c a b f h x m d s sn s3 v kp len ch p t T y) [(3, .int (nI i)), (0, .ref b0), (1, .ref c), (2, .ref (m 0))] 440 [] := by
  obtain ⟨X, h0, hX, hbl, hbA, hL⟩ := hC
  obtain ⟨hrel, hsn, hs3, hh, hl, hch, hp, ht, hT⟩ := hinv
  have hw := hrel.2.1.1
  have hnx := hrel.2.2.1
  have hsz := hrel.2.2.2.1
  refine j_aload_n (pc := 440) X dL_law_440 rfl (q := 2) rfl ?_
  refine j_aload_n (pc := 441) X dL_law_441 rfl (q := 1) rfl ?_
  refine j_iload_n (pc := 442) X dL_law_442 rfl (q := 0) rfl ?_
  refine j_iconst (pc := 443) X (v := nI 1) dL_law_443 (by decide) ?_
  refine j_iadd (pc := 444) X (v := nI (i + 1)) dL_law_444 (nI_add _ _) ?_
  refine j_sld (pc := 445) X hX hbl hbA (i := i + 1) (by omega) (by omega) dL_law_445 ?_
  refine j_lperm (pq_a _ _ _ _ _ _ _ _) ?_
  refine j_cxV (pc := 446) X (As := [.int (xs (i + 1))]) (st := []) (c_X4_pass l D tA c a b f h x kp s d v (xs (i + 1)) hw hnx hsz hh) cd_X4_pass wm_L_49 0 rfl rfl rfl fst_a ⟨Nat.le_of_ble_eq_true rfl, Nat.le_of_ble_eq_true rfl⟩ h0 rfl (Nat.le_of_ble_eq_true rfl) dL_law_446 ?_
  refine j_lperm (pq_a _ _ _ _ _ _ _ _).symm ?_
  refine j_aload_n (pc := 449) X dL_law_449 rfl (q := 3) rfl ?_
  refine j_aload_n (pc := 450) X dL_law_450 rfl (q := 1) rfl ?_
  refine j_iload_n (pc := 451) X dL_law_451 rfl (q := 0) rfl ?_
  refine j_iconst (pc := 452) X (v := nI 1) dL_law_452 (by decide) ?_
  refine j_iadd (pc := 453) X (v := nI (i + 1)) dL_law_453 (nI_add _ _) ?_
  refine j_sld (pc := 454) X hX hbl hbA (i := i + 1) (by omega) (by omega) dL_law_454 ?_
  refine j_lperm (pq_m _ _ _ _ _ _ _ _) ?_
  refine j_cyV (pc := 455) X (As := [.int (xs (i + 1))]) (st := [_]) (c_X5_pass l D tA m y s sn v kp len (xs (i + 1)) hrel) cd_X5_pass wm_L_52 0 rfl rfl rfl (fun _ => rfl) ⟨Nat.le_of_ble_eq_true rfl, Nat.le_of_ble_eq_true rfl⟩ h0 rfl (Nat.le_of_ble_eq_true rfl) dL_law_455 (fun u hu => ?_)
  refine j_lperm (pq_m _ _ _ _ _ _ _ _).symm ?_
  refine j_icmp_eq_t (pc := 458) X (tgt := 939) dL_law_458 (by decide) rfl ?_
  exact ih (aS s (oPass s (xs (i + 1))).2) sn s3 (aH v s (oPass s (xs (i + 1))).2) kp len ch p t T u ⟨hu, hsn, hs3, hh_push hh hw _, hl, hch, hp, ht, hT⟩
set_option maxHeartbeats 4000000 in
set_option maxRecDepth 100000 in
theorem law_bears {l : Launch} {D : va_G} {tA : Nat → ClassId} {G : kCx} {n k b0 L : Nat} {xs : Nat → Int32} (hC : LCx D tA G n k b0 L xs) {c : Nat} {a b f h x m : Nat → Nat} {d : Nat → Nat → Nat} {i : Nat} (hi : i + 6 ≤ L)  (s sn s3 : Sg) (v : Hs) (kp : Bool) (len : Nat) (ch : Nat → Nat) (p : Nat) (t : Tb) (T : Nat → Nat) (y : MX) (hinv : LInv s sn s3 v kp len ch p t T y) (ih : ∀ (s sn s3 : Sg) (v : Hs) (kp : Bool) (len : Nat) (ch : Nat → Nat) (p : Nat) (t : Tb) (T : Nat → Nat) (y : MX), LInv s sn s3 v kp len ch p t T y → J l D G n k (lawW tA c a b f h x m d s sn s3 v kp len ch p t T y) [(3, .int (nI i)), (0, .ref b0), (1, .ref c), (2, .ref (m 0))] 939 []) : J l D G n k (lawW tA c a b f h x m d s sn s3 v kp len ch p t T y) [(3, .int (nI i)), (0, .ref b0), (1, .ref c), (2, .ref (m 0))] 553 [] := by
  obtain ⟨X, h0, hX, hbl, hbA, hL⟩ := hC
  obtain ⟨hrel, hsn, hs3, hh, hl, hch, hp, ht, hT⟩ := hinv
  have hw := hrel.2.1.1
  have hnx := hrel.2.2.1
  have hsz := hrel.2.2.2.1
  refine j_aload_n (pc := 553) X dL_law_553 rfl (q := 2) rfl ?_
  refine j_aload_n (pc := 554) X dL_law_554 rfl (q := 1) rfl ?_
  refine j_iload_n (pc := 555) X dL_law_555 rfl (q := 0) rfl ?_
  refine j_iconst (pc := 556) X (v := nI 1) dL_law_556 (by decide) ?_
  refine j_iadd (pc := 557) X (v := nI (i + 1)) dL_law_557 (nI_add _ _) ?_
  refine j_sld (pc := 558) X hX hbl hbA (i := i + 1) (by omega) (by omega) dL_law_558 ?_
  refine j_aload_n (pc := 559) X dL_law_559 rfl (q := 1) rfl ?_
  refine j_iload_n (pc := 560) X dL_law_560 rfl (q := 0) rfl ?_
  refine j_iconst (pc := 561) X (v := nI 2) dL_law_561 (by decide) ?_
  refine j_iadd (pc := 562) X (v := nI (i + 2)) dL_law_562 (nI_add _ _) ?_
  refine j_sld (pc := 563) X hX hbl hbA (i := i + 2) (by omega) (by omega) dL_law_563 ?_
  refine j_lperm (pq_b _ _ _ _ _ _ _ _) ?_
  refine j_cxV (pc := 564) X (As := [.int (xs (i + 1)), .int (xs (i + 2))]) (st := []) (c_X4_bears l D tA c a b f h x kp s (xs (i + 1)) (xs (i + 2)) hw) cd_X4_bears wm_L_78 0 rfl rfl rfl rfl ⟨Nat.le_of_ble_eq_true rfl, Nat.le_of_ble_eq_true rfl⟩ h0 rfl (Nat.le_of_ble_eq_true rfl) dL_law_564 ?_
  refine j_lperm (pq_b _ _ _ _ _ _ _ _).symm ?_
  refine j_aload_n (pc := 567) X dL_law_567 rfl (q := 3) rfl ?_
  refine j_aload_n (pc := 568) X dL_law_568 rfl (q := 1) rfl ?_
  refine j_iload_n (pc := 569) X dL_law_569 rfl (q := 0) rfl ?_
  refine j_iconst (pc := 570) X (v := nI 1) dL_law_570 (by decide) ?_
  refine j_iadd (pc := 571) X (v := nI (i + 1)) dL_law_571 (nI_add _ _) ?_
  refine j_sld (pc := 572) X hX hbl hbA (i := i + 1) (by omega) (by omega) dL_law_572 ?_
  refine j_aload_n (pc := 573) X dL_law_573 rfl (q := 1) rfl ?_
  refine j_iload_n (pc := 574) X dL_law_574 rfl (q := 0) rfl ?_
  refine j_iconst (pc := 575) X (v := nI 2) dL_law_575 (by decide) ?_
  refine j_iadd (pc := 576) X (v := nI (i + 2)) dL_law_576 (nI_add _ _) ?_
  refine j_sld (pc := 577) X hX hbl hbA (i := i + 2) (by omega) (by omega) dL_law_577 ?_
  refine j_lperm (pq_m _ _ _ _ _ _ _ _) ?_
  refine j_cxV (pc := 578) X (As := [.int (xs (i + 1)), .int (xs (i + 2))]) (st := [_]) (c_X5_bears l D tA m y s sn v kp len (xs (i + 1)) (xs (i + 2)) hrel) cd_X5_bears wm_L_81 0 rfl rfl rfl rfl ⟨Nat.le_of_ble_eq_true rfl, Nat.le_of_ble_eq_true rfl⟩ h0 rfl (Nat.le_of_ble_eq_true rfl) dL_law_578 ?_
  refine j_lperm (pq_m _ _ _ _ _ _ _ _).symm ?_
  refine j_icmp_eq_t (pc := 581) X (tgt := 939) dL_law_581 (by decide) rfl ?_
  exact ih s sn s3 v kp len ch p t T y ⟨hrel, hsn, hs3, hh, hl, hch, hp, ht, hT⟩
set_option maxHeartbeats 4000000 in
set_option maxRecDepth 100000 in
theorem law_machine {l : Launch} {D : va_G} {tA : Nat → ClassId} {G : kCx} {n k b0 L : Nat} {xs : Nat → Int32} (hC : LCx D tA G n k b0 L xs) {c : Nat} {a b f h x m : Nat → Nat} {d : Nat → Nat → Nat} {i : Nat} (hi : i + 6 ≤ L)  (s sn s3 : Sg) (v : Hs) (kp : Bool) (len : Nat) (ch : Nat → Nat) (p : Nat) (t : Tb) (T : Nat → Nat) (y : MX) (hinv : LInv s sn s3 v kp len ch p t T y) (ih : ∀ (s sn s3 : Sg) (v : Hs) (kp : Bool) (len : Nat) (ch : Nat → Nat) (p : Nat) (t : Tb) (T : Nat → Nat) (y : MX), LInv s sn s3 v kp len ch p t T y → J l D G n k (lawW tA c a b f h x m d s sn s3 v kp len ch p t T y) [(3, .int (nI i)), (0, .ref b0), (1, .ref c), (2, .ref (m 0))] 939 []) : J l D G n k (lawW tA c a b f h x m d s sn s3 v kp len ch p t T y) [(3, .int (nI i)), (0, .ref b0), (1, .ref c), (2, .ref (m 0))] 662 [] := by
  obtain ⟨X, h0, hX, hbl, hbA, hL⟩ := hC
  obtain ⟨hrel, hsn, hs3, hh, hl, hch, hp, ht, hT⟩ := hinv
  have hw := hrel.2.1.1
  have hnx := hrel.2.2.1
  have hsz := hrel.2.2.2.1
  refine j_aload_n (pc := 662) X dL_law_662 rfl (q := 2) rfl ?_
  refine j_aload_n (pc := 663) X dL_law_663 rfl (q := 1) rfl ?_
  refine j_iload_n (pc := 664) X dL_law_664 rfl (q := 0) rfl ?_
  refine j_iconst (pc := 665) X (v := nI 1) dL_law_665 (by decide) ?_
  refine j_iadd (pc := 666) X (v := nI (i + 1)) dL_law_666 (nI_add _ _) ?_
  refine j_sld (pc := 667) X hX hbl hbA (i := i + 1) (by omega) (by omega) dL_law_667 ?_
  refine j_aload_n (pc := 668) X dL_law_668 rfl (q := 1) rfl ?_
  refine j_iload_n (pc := 669) X dL_law_669 rfl (q := 0) rfl ?_
  refine j_iconst (pc := 670) X (v := nI 2) dL_law_670 (by decide) ?_
  refine j_iadd (pc := 671) X (v := nI (i + 2)) dL_law_671 (nI_add _ _) ?_
  refine j_sld (pc := 672) X hX hbl hbA (i := i + 2) (by omega) (by omega) dL_law_672 ?_
  refine j_lperm (pq_b _ _ _ _ _ _ _ _) ?_
  refine j_cxV (pc := 673) X (As := [.int (xs (i + 1)), .int (xs (i + 2))]) (st := []) (c_X4_machine l D tA c a b f h x kp s (xs (i + 1)) (xs (i + 2)) hw) cd_X4_machine wm_L_91 0 rfl rfl rfl rfl ⟨Nat.le_of_ble_eq_true rfl, Nat.le_of_ble_eq_true rfl⟩ h0 rfl (Nat.le_of_ble_eq_true rfl) dL_law_673 ?_
  refine j_lperm (pq_b _ _ _ _ _ _ _ _).symm ?_
  refine j_aload_n (pc := 676) X dL_law_676 rfl (q := 3) rfl ?_
  refine j_aload_n (pc := 677) X dL_law_677 rfl (q := 1) rfl ?_
  refine j_iload_n (pc := 678) X dL_law_678 rfl (q := 0) rfl ?_
  refine j_iconst (pc := 679) X (v := nI 1) dL_law_679 (by decide) ?_
  refine j_iadd (pc := 680) X (v := nI (i + 1)) dL_law_680 (nI_add _ _) ?_
  refine j_sld (pc := 681) X hX hbl hbA (i := i + 1) (by omega) (by omega) dL_law_681 ?_
  refine j_aload_n (pc := 682) X dL_law_682 rfl (q := 1) rfl ?_
  refine j_iload_n (pc := 683) X dL_law_683 rfl (q := 0) rfl ?_
  refine j_iconst (pc := 684) X (v := nI 2) dL_law_684 (by decide) ?_
  refine j_iadd (pc := 685) X (v := nI (i + 2)) dL_law_685 (nI_add _ _) ?_
  refine j_sld (pc := 686) X hX hbl hbA (i := i + 2) (by omega) (by omega) dL_law_686 ?_
  refine j_lperm (pq_m _ _ _ _ _ _ _ _) ?_
  refine j_cxV (pc := 687) X (As := [.int (xs (i + 1)), .int (xs (i + 2))]) (st := [_]) (c_X5_machine l D tA m y s sn v kp len (xs (i + 1)) (xs (i + 2)) hrel) cd_X5_machine wm_L_94 0 rfl rfl rfl rfl ⟨Nat.le_of_ble_eq_true rfl, Nat.le_of_ble_eq_true rfl⟩ h0 rfl (Nat.le_of_ble_eq_true rfl) dL_law_687 ?_
  refine j_lperm (pq_m _ _ _ _ _ _ _ _).symm ?_
  refine j_icmp_eq_t (pc := 690) X (tgt := 939) dL_law_690 (by decide) rfl ?_
  exact ih s sn s3 v kp len ch p t T y ⟨hrel, hsn, hs3, hh, hl, hch, hp, ht, hT⟩
set_option maxHeartbeats 4000000 in
set_option maxRecDepth 100000 in
theorem law_member {l : Launch} {D : va_G} {tA : Nat → ClassId} {G : kCx} {n k b0 L : Nat} {xs : Nat → Int32} (hC : LCx D tA G n k b0 L xs) {c : Nat} {a b f h x m : Nat → Nat} {d : Nat → Nat → Nat} {i : Nat} (hi : i + 6 ≤ L)  (s sn s3 : Sg) (v : Hs) (kp : Bool) (len : Nat) (ch : Nat → Nat) (p : Nat) (t : Tb) (T : Nat → Nat) (y : MX) (hinv : LInv s sn s3 v kp len ch p t T y) (ih : ∀ (s sn s3 : Sg) (v : Hs) (kp : Bool) (len : Nat) (ch : Nat → Nat) (p : Nat) (t : Tb) (T : Nat → Nat) (y : MX), LInv s sn s3 v kp len ch p t T y → J l D G n k (lawW tA c a b f h x m d s sn s3 v kp len ch p t T y) [(3, .int (nI i)), (0, .ref b0), (1, .ref c), (2, .ref (m 0))] 939 []) : J l D G n k (lawW tA c a b f h x m d s sn s3 v kp len ch p t T y) [(3, .int (nI i)), (0, .ref b0), (1, .ref c), (2, .ref (m 0))] 695 [] := by
  obtain ⟨X, h0, hX, hbl, hbA, hL⟩ := hC
  obtain ⟨hrel, hsn, hs3, hh, hl, hch, hp, ht, hT⟩ := hinv
  have hw := hrel.2.1.1
  have hnx := hrel.2.2.1
  have hsz := hrel.2.2.2.1
  refine j_aload_n (pc := 695) X dL_law_695 rfl (q := 2) rfl ?_
  refine j_aload_n (pc := 696) X dL_law_696 rfl (q := 1) rfl ?_
  refine j_iload_n (pc := 697) X dL_law_697 rfl (q := 0) rfl ?_
  refine j_iconst (pc := 698) X (v := nI 1) dL_law_698 (by decide) ?_
  refine j_iadd (pc := 699) X (v := nI (i + 1)) dL_law_699 (nI_add _ _) ?_
  refine j_sld (pc := 700) X hX hbl hbA (i := i + 1) (by omega) (by omega) dL_law_700 ?_
  refine j_aload_n (pc := 701) X dL_law_701 rfl (q := 1) rfl ?_
  refine j_iload_n (pc := 702) X dL_law_702 rfl (q := 0) rfl ?_
  refine j_iconst (pc := 703) X (v := nI 2) dL_law_703 (by decide) ?_
  refine j_iadd (pc := 704) X (v := nI (i + 2)) dL_law_704 (nI_add _ _) ?_
  refine j_sld (pc := 705) X hX hbl hbA (i := i + 2) (by omega) (by omega) dL_law_705 ?_
  refine j_lperm (pq_b _ _ _ _ _ _ _ _) ?_
  refine j_cxV (pc := 706) X (As := [.int (xs (i + 1)), .int (xs (i + 2))]) (st := []) (c_X4_member l D tA c a b f h x kp s (xs (i + 1)) (xs (i + 2)) hw) cd_X4_member wm_L_95 0 rfl rfl rfl rfl ⟨Nat.le_of_ble_eq_true rfl, Nat.le_of_ble_eq_true rfl⟩ h0 rfl (Nat.le_of_ble_eq_true rfl) dL_law_706 ?_
  refine j_lperm (pq_b _ _ _ _ _ _ _ _).symm ?_
  refine j_aload_n (pc := 709) X dL_law_709 rfl (q := 3) rfl ?_
  refine j_aload_n (pc := 710) X dL_law_710 rfl (q := 1) rfl ?_
  refine j_iload_n (pc := 711) X dL_law_711 rfl (q := 0) rfl ?_
  refine j_iconst (pc := 712) X (v := nI 1) dL_law_712 (by decide) ?_
  refine j_iadd (pc := 713) X (v := nI (i + 1)) dL_law_713 (nI_add _ _) ?_
  refine j_sld (pc := 714) X hX hbl hbA (i := i + 1) (by omega) (by omega) dL_law_714 ?_
  refine j_aload_n (pc := 715) X dL_law_715 rfl (q := 1) rfl ?_
  refine j_iload_n (pc := 716) X dL_law_716 rfl (q := 0) rfl ?_
  refine j_iconst (pc := 717) X (v := nI 2) dL_law_717 (by decide) ?_
  refine j_iadd (pc := 718) X (v := nI (i + 2)) dL_law_718 (nI_add _ _) ?_
  refine j_sld (pc := 719) X hX hbl hbA (i := i + 2) (by omega) (by omega) dL_law_719 ?_
  refine j_lperm (pq_m _ _ _ _ _ _ _ _) ?_
  refine j_cxV (pc := 720) X (As := [.int (xs (i + 1)), .int (xs (i + 2))]) (st := [_]) (c_X5_member l D tA m y s sn v kp len (xs (i + 1)) (xs (i + 2)) hrel) cd_X5_member wm_L_98 0 rfl rfl rfl rfl ⟨Nat.le_of_ble_eq_true rfl, Nat.le_of_ble_eq_true rfl⟩ h0 rfl (Nat.le_of_ble_eq_true rfl) dL_law_720 ?_
  refine j_lperm (pq_m _ _ _ _ _ _ _ _).symm ?_
  refine j_icmp_eq_t (pc := 723) X (tgt := 939) dL_law_723 (by decide) rfl ?_
  exact ih s sn s3 v kp len ch p t T y ⟨hrel, hsn, hs3, hh, hl, hch, hp, ht, hT⟩
set_option maxHeartbeats 4000000 in
set_option maxRecDepth 100000 in
theorem law_booking {l : Launch} {D : va_G} {tA : Nat → ClassId} {G : kCx} {n k b0 L : Nat} {xs : Nat → Int32} (hC : LCx D tA G n k b0 L xs) {c : Nat} {a b f h x m : Nat → Nat} {d : Nat → Nat → Nat} {i : Nat} (hi : i + 6 ≤ L)  (s sn s3 : Sg) (v : Hs) (kp : Bool) (len : Nat) (ch : Nat → Nat) (p : Nat) (t : Tb) (T : Nat → Nat) (y : MX) (hinv : LInv s sn s3 v kp len ch p t T y) (ih : ∀ (s sn s3 : Sg) (v : Hs) (kp : Bool) (len : Nat) (ch : Nat → Nat) (p : Nat) (t : Tb) (T : Nat → Nat) (y : MX), LInv s sn s3 v kp len ch p t T y → J l D G n k (lawW tA c a b f h x m d s sn s3 v kp len ch p t T y) [(3, .int (nI i)), (0, .ref b0), (1, .ref c), (2, .ref (m 0))] 939 []) : J l D G n k (lawW tA c a b f h x m d s sn s3 v kp len ch p t T y) [(3, .int (nI i)), (0, .ref b0), (1, .ref c), (2, .ref (m 0))] 728 [] := by
  obtain ⟨X, h0, hX, hbl, hbA, hL⟩ := hC
  obtain ⟨hrel, hsn, hs3, hh, hl, hch, hp, ht, hT⟩ := hinv
  have hw := hrel.2.1.1
  have hnx := hrel.2.2.1
  have hsz := hrel.2.2.2.1
  refine j_aload_n (pc := 728) X dL_law_728 rfl (q := 2) rfl ?_
  refine j_aload_n (pc := 729) X dL_law_729 rfl (q := 1) rfl ?_
  refine j_iload_n (pc := 730) X dL_law_730 rfl (q := 0) rfl ?_
  refine j_iconst (pc := 731) X (v := nI 1) dL_law_731 (by decide) ?_
  refine j_iadd (pc := 732) X (v := nI (i + 1)) dL_law_732 (nI_add _ _) ?_
  refine j_sld (pc := 733) X hX hbl hbA (i := i + 1) (by omega) (by omega) dL_law_733 ?_
  refine j_aload_n (pc := 734) X dL_law_734 rfl (q := 1) rfl ?_
  refine j_iload_n (pc := 735) X dL_law_735 rfl (q := 0) rfl ?_
  refine j_iconst (pc := 736) X (v := nI 2) dL_law_736 (by decide) ?_
  refine j_iadd (pc := 737) X (v := nI (i + 2)) dL_law_737 (nI_add _ _) ?_
  refine j_sld (pc := 738) X hX hbl hbA (i := i + 2) (by omega) (by omega) dL_law_738 ?_
  refine j_lperm (pq_b _ _ _ _ _ _ _ _) ?_
  refine j_cxV (pc := 739) X (As := [.int (xs (i + 1)), .int (xs (i + 2))]) (st := []) (c_X4_booking l D tA c a b f h x kp s (xs (i + 1)) (xs (i + 2)) hw) cd_X4_booking wm_L_99 0 rfl rfl rfl rfl ⟨Nat.le_of_ble_eq_true rfl, Nat.le_of_ble_eq_true rfl⟩ h0 rfl (Nat.le_of_ble_eq_true rfl) dL_law_739 ?_
  refine j_lperm (pq_b _ _ _ _ _ _ _ _).symm ?_
  refine j_aload_n (pc := 742) X dL_law_742 rfl (q := 3) rfl ?_
  refine j_aload_n (pc := 743) X dL_law_743 rfl (q := 1) rfl ?_
  refine j_iload_n (pc := 744) X dL_law_744 rfl (q := 0) rfl ?_
  refine j_iconst (pc := 745) X (v := nI 1) dL_law_745 (by decide) ?_
  refine j_iadd (pc := 746) X (v := nI (i + 1)) dL_law_746 (nI_add _ _) ?_
  refine j_sld (pc := 747) X hX hbl hbA (i := i + 1) (by omega) (by omega) dL_law_747 ?_
  refine j_aload_n (pc := 748) X dL_law_748 rfl (q := 1) rfl ?_
  refine j_iload_n (pc := 749) X dL_law_749 rfl (q := 0) rfl ?_
  refine j_iconst (pc := 750) X (v := nI 2) dL_law_750 (by decide) ?_
  refine j_iadd (pc := 751) X (v := nI (i + 2)) dL_law_751 (nI_add _ _) ?_
  refine j_sld (pc := 752) X hX hbl hbA (i := i + 2) (by omega) (by omega) dL_law_752 ?_
  refine j_lperm (pq_m _ _ _ _ _ _ _ _) ?_
  refine j_cxV (pc := 753) X (As := [.int (xs (i + 1)), .int (xs (i + 2))]) (st := [_]) (c_X5_booking l D tA m y s sn v kp len (xs (i + 1)) (xs (i + 2)) hrel) cd_X5_booking wm_L_102 0 rfl rfl rfl rfl ⟨Nat.le_of_ble_eq_true rfl, Nat.le_of_ble_eq_true rfl⟩ h0 rfl (Nat.le_of_ble_eq_true rfl) dL_law_753 ?_
  refine j_lperm (pq_m _ _ _ _ _ _ _ _).symm ?_
  refine j_icmp_eq_t (pc := 756) X (tgt := 939) dL_law_756 (by decide) rfl ?_
  exact ih s sn s3 v kp len ch p t T y ⟨hrel, hsn, hs3, hh, hl, hch, hp, ht, hT⟩
set_option maxHeartbeats 4000000 in
set_option maxRecDepth 100000 in
theorem law_move {l : Launch} {D : va_G} {tA : Nat → ClassId} {G : kCx} {n k b0 L : Nat} {xs : Nat → Int32} (hC : LCx D tA G n k b0 L xs) {c : Nat} {a b f h x m : Nat → Nat} {d : Nat → Nat → Nat} {i : Nat} (hi : i + 6 ≤ L)  (s sn s3 : Sg) (v : Hs) (kp : Bool) (len : Nat) (ch : Nat → Nat) (p : Nat) (t : Tb) (T : Nat → Nat) (y : MX) (hinv : LInv s sn s3 v kp len ch p t T y) (ih : ∀ (s sn s3 : Sg) (v : Hs) (kp : Bool) (len : Nat) (ch : Nat → Nat) (p : Nat) (t : Tb) (T : Nat → Nat) (y : MX), LInv s sn s3 v kp len ch p t T y → J l D G n k (lawW tA c a b f h x m d s sn s3 v kp len ch p t T y) [(3, .int (nI i)), (0, .ref b0), (1, .ref c), (2, .ref (m 0))] 939 []) : J l D G n k (lawW tA c a b f h x m d s sn s3 v kp len ch p t T y) [(3, .int (nI i)), (0, .ref b0), (1, .ref c), (2, .ref (m 0))] 761 [] := by
  obtain ⟨X, h0, hX, hbl, hbA, hL⟩ := hC
  obtain ⟨hrel, hsn, hs3, hh, hl, hch, hp, ht, hT⟩ := hinv
  have hw := hrel.2.1.1
  have hnx := hrel.2.2.1
  have hsz := hrel.2.2.2.1
  refine j_aload_n (pc := 761) X dL_law_761 rfl (q := 2) rfl ?_
  refine j_aload_n (pc := 762) X dL_law_762 rfl (q := 1) rfl ?_
  refine j_iload_n (pc := 763) X dL_law_763 rfl (q := 0) rfl ?_
  refine j_iconst (pc := 764) X (v := nI 1) dL_law_764 (by decide) ?_
  refine j_iadd (pc := 765) X (v := nI (i + 1)) dL_law_765 (nI_add _ _) ?_
  refine j_sld (pc := 766) X hX hbl hbA (i := i + 1) (by omega) (by omega) dL_law_766 ?_
  refine j_aload_n (pc := 767) X dL_law_767 rfl (q := 1) rfl ?_
  refine j_iload_n (pc := 768) X dL_law_768 rfl (q := 0) rfl ?_
  refine j_iconst (pc := 769) X (v := nI 2) dL_law_769 (by decide) ?_
  refine j_iadd (pc := 770) X (v := nI (i + 2)) dL_law_770 (nI_add _ _) ?_
  refine j_sld (pc := 771) X hX hbl hbA (i := i + 2) (by omega) (by omega) dL_law_771 ?_
  refine j_lperm (pq_b _ _ _ _ _ _ _ _) ?_
  refine j_cxV (pc := 772) X (As := [.int (xs (i + 1)), .int (xs (i + 2))]) (st := []) (c_X4_move l D tA c a b f h x kp s (xs (i + 1)) (xs (i + 2)) hw) cd_X4_move wm_L_103 0 rfl rfl rfl rfl ⟨Nat.le_of_ble_eq_true rfl, Nat.le_of_ble_eq_true rfl⟩ h0 rfl (Nat.le_of_ble_eq_true rfl) dL_law_772 ?_
  refine j_lperm (pq_b _ _ _ _ _ _ _ _).symm ?_
  refine j_aload_n (pc := 775) X dL_law_775 rfl (q := 3) rfl ?_
  refine j_aload_n (pc := 776) X dL_law_776 rfl (q := 1) rfl ?_
  refine j_iload_n (pc := 777) X dL_law_777 rfl (q := 0) rfl ?_
  refine j_iconst (pc := 778) X (v := nI 1) dL_law_778 (by decide) ?_
  refine j_iadd (pc := 779) X (v := nI (i + 1)) dL_law_779 (nI_add _ _) ?_
  refine j_sld (pc := 780) X hX hbl hbA (i := i + 1) (by omega) (by omega) dL_law_780 ?_
  refine j_aload_n (pc := 781) X dL_law_781 rfl (q := 1) rfl ?_
  refine j_iload_n (pc := 782) X dL_law_782 rfl (q := 0) rfl ?_
  refine j_iconst (pc := 783) X (v := nI 2) dL_law_783 (by decide) ?_
  refine j_iadd (pc := 784) X (v := nI (i + 2)) dL_law_784 (nI_add _ _) ?_
  refine j_sld (pc := 785) X hX hbl hbA (i := i + 2) (by omega) (by omega) dL_law_785 ?_
  refine j_lperm (pq_m _ _ _ _ _ _ _ _) ?_
  refine j_cxV (pc := 786) X (As := [.int (xs (i + 1)), .int (xs (i + 2))]) (st := [_]) (c_X5_move l D tA m y s sn v kp len (xs (i + 1)) (xs (i + 2)) hrel) cd_X5_move wm_L_106 0 rfl rfl rfl rfl ⟨Nat.le_of_ble_eq_true rfl, Nat.le_of_ble_eq_true rfl⟩ h0 rfl (Nat.le_of_ble_eq_true rfl) dL_law_786 ?_
  refine j_lperm (pq_m _ _ _ _ _ _ _ _).symm ?_
  refine j_icmp_eq_t (pc := 789) X (tgt := 939) dL_law_789 (by decide) rfl ?_
  exact ih s sn s3 v kp len ch p t T y ⟨hrel, hsn, hs3, hh, hl, hch, hp, ht, hT⟩
set_option maxHeartbeats 4000000 in
set_option maxRecDepth 100000 in
theorem law_bookedAt {l : Launch} {D : va_G} {tA : Nat → ClassId} {G : kCx} {n k b0 L : Nat} {xs : Nat → Int32} (hC : LCx D tA G n k b0 L xs) {c : Nat} {a b f h x m : Nat → Nat} {d : Nat → Nat → Nat} {i : Nat} (hi : i + 6 ≤ L)  (s sn s3 : Sg) (v : Hs) (kp : Bool) (len : Nat) (ch : Nat → Nat) (p : Nat) (t : Tb) (T : Nat → Nat) (y : MX) (hinv : LInv s sn s3 v kp len ch p t T y) (ih : ∀ (s sn s3 : Sg) (v : Hs) (kp : Bool) (len : Nat) (ch : Nat → Nat) (p : Nat) (t : Tb) (T : Nat → Nat) (y : MX), LInv s sn s3 v kp len ch p t T y → J l D G n k (lawW tA c a b f h x m d s sn s3 v kp len ch p t T y) [(3, .int (nI i)), (0, .ref b0), (1, .ref c), (2, .ref (m 0))] 939 []) : J l D G n k (lawW tA c a b f h x m d s sn s3 v kp len ch p t T y) [(3, .int (nI i)), (0, .ref b0), (1, .ref c), (2, .ref (m 0))] 794 [] := by
  obtain ⟨X, h0, hX, hbl, hbA, hL⟩ := hC
  obtain ⟨hrel, hsn, hs3, hh, hl, hch, hp, ht, hT⟩ := hinv
  have hw := hrel.2.1.1
  have hnx := hrel.2.2.1
  have hsz := hrel.2.2.2.1
  refine j_aload_n (pc := 794) X dL_law_794 rfl (q := 2) rfl ?_
  refine j_aload_n (pc := 795) X dL_law_795 rfl (q := 1) rfl ?_
  refine j_iload_n (pc := 796) X dL_law_796 rfl (q := 0) rfl ?_
  refine j_iconst (pc := 797) X (v := nI 1) dL_law_797 (by decide) ?_
  refine j_iadd (pc := 798) X (v := nI (i + 1)) dL_law_798 (nI_add _ _) ?_
  refine j_sld (pc := 799) X hX hbl hbA (i := i + 1) (by omega) (by omega) dL_law_799 ?_
  refine j_aload_n (pc := 800) X dL_law_800 rfl (q := 1) rfl ?_
  refine j_iload_n (pc := 801) X dL_law_801 rfl (q := 0) rfl ?_
  refine j_iconst (pc := 802) X (v := nI 2) dL_law_802 (by decide) ?_
  refine j_iadd (pc := 803) X (v := nI (i + 2)) dL_law_803 (nI_add _ _) ?_
  refine j_sld (pc := 804) X hX hbl hbA (i := i + 2) (by omega) (by omega) dL_law_804 ?_
  refine j_lperm (pq_b _ _ _ _ _ _ _ _) ?_
  refine j_cxV (pc := 805) X (As := [.int (xs (i + 1)), .int (xs (i + 2))]) (st := []) (c_X4_bookedAt l D tA c a b f h x kp s (xs (i + 1)) (xs (i + 2)) hw) cd_X4_bookedAt wm_L_107 0 rfl rfl rfl rfl ⟨Nat.le_of_ble_eq_true rfl, Nat.le_of_ble_eq_true rfl⟩ h0 rfl (Nat.le_of_ble_eq_true rfl) dL_law_805 ?_
  refine j_lperm (pq_b _ _ _ _ _ _ _ _).symm ?_
  refine j_aload_n (pc := 808) X dL_law_808 rfl (q := 3) rfl ?_
  refine j_aload_n (pc := 809) X dL_law_809 rfl (q := 1) rfl ?_
  refine j_iload_n (pc := 810) X dL_law_810 rfl (q := 0) rfl ?_
  refine j_iconst (pc := 811) X (v := nI 1) dL_law_811 (by decide) ?_
  refine j_iadd (pc := 812) X (v := nI (i + 1)) dL_law_812 (nI_add _ _) ?_
  refine j_sld (pc := 813) X hX hbl hbA (i := i + 1) (by omega) (by omega) dL_law_813 ?_
  refine j_aload_n (pc := 814) X dL_law_814 rfl (q := 1) rfl ?_
  refine j_iload_n (pc := 815) X dL_law_815 rfl (q := 0) rfl ?_
  refine j_iconst (pc := 816) X (v := nI 2) dL_law_816 (by decide) ?_
  refine j_iadd (pc := 817) X (v := nI (i + 2)) dL_law_817 (nI_add _ _) ?_
  refine j_sld (pc := 818) X hX hbl hbA (i := i + 2) (by omega) (by omega) dL_law_818 ?_
  refine j_lperm (pq_m _ _ _ _ _ _ _ _) ?_
  refine j_cxV (pc := 819) X (As := [.int (xs (i + 1)), .int (xs (i + 2))]) (st := [_]) (c_X5_bookedAt l D tA m y s sn v kp len (xs (i + 1)) (xs (i + 2)) hrel) cd_X5_bookedAt wm_L_110 0 rfl rfl rfl rfl ⟨Nat.le_of_ble_eq_true rfl, Nat.le_of_ble_eq_true rfl⟩ h0 rfl (Nat.le_of_ble_eq_true rfl) dL_law_819 ?_
  refine j_lperm (pq_m _ _ _ _ _ _ _ _).symm ?_
  refine j_icmp_eq_t (pc := 822) X (tgt := 939) dL_law_822 (by decide) rfl ?_
  exact ih s sn s3 v kp len ch p t T y ⟨hrel, hsn, hs3, hh, hl, hch, hp, ht, hT⟩
set_option maxHeartbeats 4000000 in
set_option maxRecDepth 100000 in
theorem law_machineFor {l : Launch} {D : va_G} {tA : Nat → ClassId} {G : kCx} {n k b0 L : Nat} {xs : Nat → Int32} (hC : LCx D tA G n k b0 L xs) {c : Nat} {a b f h x m : Nat → Nat} {d : Nat → Nat → Nat} {i : Nat} (hi : i + 6 ≤ L)  (s sn s3 : Sg) (v : Hs) (kp : Bool) (len : Nat) (ch : Nat → Nat) (p : Nat) (t : Tb) (T : Nat → Nat) (y : MX) (hinv : LInv s sn s3 v kp len ch p t T y) (ih : ∀ (s sn s3 : Sg) (v : Hs) (kp : Bool) (len : Nat) (ch : Nat → Nat) (p : Nat) (t : Tb) (T : Nat → Nat) (y : MX), LInv s sn s3 v kp len ch p t T y → J l D G n k (lawW tA c a b f h x m d s sn s3 v kp len ch p t T y) [(3, .int (nI i)), (0, .ref b0), (1, .ref c), (2, .ref (m 0))] 939 []) : J l D G n k (lawW tA c a b f h x m d s sn s3 v kp len ch p t T y) [(3, .int (nI i)), (0, .ref b0), (1, .ref c), (2, .ref (m 0))] 827 [] := by
  obtain ⟨X, h0, hX, hbl, hbA, hL⟩ := hC
  obtain ⟨hrel, hsn, hs3, hh, hl, hch, hp, ht, hT⟩ := hinv
  have hw := hrel.2.1.1
  have hnx := hrel.2.2.1
  have hsz := hrel.2.2.2.1
  refine j_aload_n (pc := 827) X dL_law_827 rfl (q := 2) rfl ?_
  refine j_aload_n (pc := 828) X dL_law_828 rfl (q := 1) rfl ?_
  refine j_iload_n (pc := 829) X dL_law_829 rfl (q := 0) rfl ?_
  refine j_iconst (pc := 830) X (v := nI 1) dL_law_830 (by decide) ?_
  refine j_iadd (pc := 831) X (v := nI (i + 1)) dL_law_831 (nI_add _ _) ?_
  refine j_sld (pc := 832) X hX hbl hbA (i := i + 1) (by omega) (by omega) dL_law_832 ?_
  refine j_aload_n (pc := 833) X dL_law_833 rfl (q := 1) rfl ?_
  refine j_iload_n (pc := 834) X dL_law_834 rfl (q := 0) rfl ?_
  refine j_iconst (pc := 835) X (v := nI 2) dL_law_835 (by decide) ?_
  refine j_iadd (pc := 836) X (v := nI (i + 2)) dL_law_836 (nI_add _ _) ?_
  refine j_sld (pc := 837) X hX hbl hbA (i := i + 2) (by omega) (by omega) dL_law_837 ?_
  refine j_aload_n (pc := 838) X dL_law_838 rfl (q := 1) rfl ?_
  refine j_iload_n (pc := 839) X dL_law_839 rfl (q := 0) rfl ?_
  refine j_iconst (pc := 840) X (v := nI 3) dL_law_840 (by decide) ?_
  refine j_iadd (pc := 841) X (v := nI (i + 3)) dL_law_841 (nI_add _ _) ?_
  refine j_sld (pc := 842) X hX hbl hbA (i := i + 3) (by omega) (by omega) dL_law_842 ?_
  refine j_lperm (pq_b _ _ _ _ _ _ _ _) ?_
  refine j_cxV (pc := 843) X (As := [.int (xs (i + 1)), .int (xs (i + 2)), .int (xs (i + 3))]) (st := []) (c_X4_machineFor l D tA c a b f h x kp s (xs (i + 1)) (xs (i + 2)) (xs (i + 3)) hw) cd_X4_machineFor wm_L_111 0 rfl rfl rfl rfl ⟨Nat.le_of_ble_eq_true rfl, Nat.le_of_ble_eq_true rfl⟩ h0 rfl (Nat.le_of_ble_eq_true rfl) dL_law_843 ?_
  refine j_lperm (pq_b _ _ _ _ _ _ _ _).symm ?_
  refine j_aload_n (pc := 846) X dL_law_846 rfl (q := 3) rfl ?_
  refine j_aload_n (pc := 847) X dL_law_847 rfl (q := 1) rfl ?_
  refine j_iload_n (pc := 848) X dL_law_848 rfl (q := 0) rfl ?_
  refine j_iconst (pc := 849) X (v := nI 1) dL_law_849 (by decide) ?_
  refine j_iadd (pc := 850) X (v := nI (i + 1)) dL_law_850 (nI_add _ _) ?_
  refine j_sld (pc := 851) X hX hbl hbA (i := i + 1) (by omega) (by omega) dL_law_851 ?_
  refine j_aload_n (pc := 852) X dL_law_852 rfl (q := 1) rfl ?_
  refine j_iload_n (pc := 853) X dL_law_853 rfl (q := 0) rfl ?_
  refine j_iconst (pc := 854) X (v := nI 2) dL_law_854 (by decide) ?_
  refine j_iadd (pc := 855) X (v := nI (i + 2)) dL_law_855 (nI_add _ _) ?_
  refine j_sld (pc := 856) X hX hbl hbA (i := i + 2) (by omega) (by omega) dL_law_856 ?_
  refine j_aload_n (pc := 857) X dL_law_857 rfl (q := 1) rfl ?_
  refine j_iload_n (pc := 858) X dL_law_858 rfl (q := 0) rfl ?_
  refine j_iconst (pc := 859) X (v := nI 3) dL_law_859 (by decide) ?_
  refine j_iadd (pc := 860) X (v := nI (i + 3)) dL_law_860 (nI_add _ _) ?_
  refine j_sld (pc := 861) X hX hbl hbA (i := i + 3) (by omega) (by omega) dL_law_861 ?_
  refine j_lperm (pq_m _ _ _ _ _ _ _ _) ?_
  refine j_cxV (pc := 862) X (As := [.int (xs (i + 1)), .int (xs (i + 2)), .int (xs (i + 3))]) (st := [_]) (c_X5_machineFor l D tA m y s sn v kp len (xs (i + 1)) (xs (i + 2)) (xs (i + 3)) hrel) cd_X5_machineFor wm_L_114 0 rfl rfl rfl rfl ⟨Nat.le_of_ble_eq_true rfl, Nat.le_of_ble_eq_true rfl⟩ h0 rfl (Nat.le_of_ble_eq_true rfl) dL_law_862 ?_
  refine j_lperm (pq_m _ _ _ _ _ _ _ _).symm ?_
  refine j_icmp_eq_t (pc := 865) X (tgt := 939) dL_law_865 (by decide) rfl ?_
  exact ih s sn s3 v kp len ch p t T y ⟨hrel, hsn, hs3, hh, hl, hch, hp, ht, hT⟩
set_option maxHeartbeats 4000000 in
set_option maxRecDepth 100000 in
theorem law_wind {l : Launch} {D : va_G} {tA : Nat → ClassId} {G : kCx} {n k b0 L : Nat} {xs : Nat → Int32} (hC : LCx D tA G n k b0 L xs) {c : Nat} {a b f h x m : Nat → Nat} {d : Nat → Nat → Nat} {i : Nat} (hi : i + 6 ≤ L)  (s sn s3 : Sg) (v : Hs) (kp : Bool) (len : Nat) (ch : Nat → Nat) (p : Nat) (t : Tb) (T : Nat → Nat) (y : MX) (hinv : LInv s sn s3 v kp len ch p t T y) (ih : ∀ (s sn s3 : Sg) (v : Hs) (kp : Bool) (len : Nat) (ch : Nat → Nat) (p : Nat) (t : Tb) (T : Nat → Nat) (y : MX), LInv s sn s3 v kp len ch p t T y → J l D G n k (lawW tA c a b f h x m d s sn s3 v kp len ch p t T y) [(3, .int (nI i)), (0, .ref b0), (1, .ref c), (2, .ref (m 0))] 939 []) : J l D G n k (lawW tA c a b f h x m d s sn s3 v kp len ch p t T y) [(3, .int (nI i)), (0, .ref b0), (1, .ref c), (2, .ref (m 0))] 893 [] := by
  obtain ⟨X, h0, hX, hbl, hbA, hL⟩ := hC
  obtain ⟨hrel, hsn, hs3, hh, hl, hch, hp, ht, hT⟩ := hinv
  have hw := hrel.2.1.1
  have hnx := hrel.2.2.1
  have hsz := hrel.2.2.2.1
  refine j_aload_n (pc := 893) X dL_law_893 rfl (q := 2) rfl ?_
  refine j_aload_n (pc := 894) X dL_law_894 rfl (q := 1) rfl ?_
  refine j_iload_n (pc := 895) X dL_law_895 rfl (q := 0) rfl ?_
  refine j_iconst (pc := 896) X (v := nI 1) dL_law_896 (by decide) ?_
  refine j_iadd (pc := 897) X (v := nI (i + 1)) dL_law_897 (nI_add _ _) ?_
  refine j_sld (pc := 898) X hX hbl hbA (i := i + 1) (by omega) (by omega) dL_law_898 ?_
  refine j_lperm (pq_b _ _ _ _ _ _ _ _) ?_
  refine j_cxV (pc := 899) X (As := [.int (xs (i + 1))]) (st := []) (c_X4_wind l D tA c a b f h x kp s (xs (i + 1)) hw) cd_X4_wind wm_L_119 0 rfl rfl rfl rfl ⟨Nat.le_of_ble_eq_true rfl, Nat.le_of_ble_eq_true rfl⟩ h0 rfl (Nat.le_of_ble_eq_true rfl) dL_law_899 ?_
  refine j_lperm (pq_b _ _ _ _ _ _ _ _).symm ?_
  refine j_aload_n (pc := 902) X dL_law_902 rfl (q := 3) rfl ?_
  refine j_aload_n (pc := 903) X dL_law_903 rfl (q := 1) rfl ?_
  refine j_iload_n (pc := 904) X dL_law_904 rfl (q := 0) rfl ?_
  refine j_iconst (pc := 905) X (v := nI 1) dL_law_905 (by decide) ?_
  refine j_iadd (pc := 906) X (v := nI (i + 1)) dL_law_906 (nI_add _ _) ?_
  refine j_sld (pc := 907) X hX hbl hbA (i := i + 1) (by omega) (by omega) dL_law_907 ?_
  refine j_lperm (pq_m _ _ _ _ _ _ _ _) ?_
  refine j_cxV (pc := 908) X (As := [.int (xs (i + 1))]) (st := [_]) (c_X5_wind l D tA m y s sn v kp len (xs (i + 1)) hrel) cd_X5_wind wm_L_122 0 rfl rfl rfl rfl ⟨Nat.le_of_ble_eq_true rfl, Nat.le_of_ble_eq_true rfl⟩ h0 rfl (Nat.le_of_ble_eq_true rfl) dL_law_908 ?_
  refine j_lperm (pq_m _ _ _ _ _ _ _ _).symm ?_
  refine j_icmp_eq_t (pc := 911) X (tgt := 939) dL_law_911 (by decide) rfl ?_
  exact ih s sn s3 v kp len ch p t T y ⟨hrel, hsn, hs3, hh, hl, hch, hp, ht, hT⟩
set_option maxHeartbeats 4000000 in
set_option maxRecDepth 100000 in
theorem law_windLimit {l : Launch} {D : va_G} {tA : Nat → ClassId} {G : kCx} {n k b0 L : Nat} {xs : Nat → Int32} (hC : LCx D tA G n k b0 L xs) {c : Nat} {a b f h x m : Nat → Nat} {d : Nat → Nat → Nat} {i : Nat} (hi : i + 6 ≤ L)  (s sn s3 : Sg) (v : Hs) (kp : Bool) (len : Nat) (ch : Nat → Nat) (p : Nat) (t : Tb) (T : Nat → Nat) (y : MX) (hinv : LInv s sn s3 v kp len ch p t T y) (ih : ∀ (s sn s3 : Sg) (v : Hs) (kp : Bool) (len : Nat) (ch : Nat → Nat) (p : Nat) (t : Tb) (T : Nat → Nat) (y : MX), LInv s sn s3 v kp len ch p t T y → J l D G n k (lawW tA c a b f h x m d s sn s3 v kp len ch p t T y) [(3, .int (nI i)), (0, .ref b0), (1, .ref c), (2, .ref (m 0))] 939 []) : J l D G n k (lawW tA c a b f h x m d s sn s3 v kp len ch p t T y) [(3, .int (nI i)), (0, .ref b0), (1, .ref c), (2, .ref (m 0))] 629 [] := by
  obtain ⟨X, h0, hX, hbl, hbA, hL⟩ := hC
  obtain ⟨hrel, hsn, hs3, hh, hl, hch, hp, ht, hT⟩ := hinv
  have hw := hrel.2.1.1
  have hnx := hrel.2.2.1
  have hsz := hrel.2.2.2.1
  refine j_aload_n (pc := 629) X dL_law_629 rfl (q := 2) rfl ?_
  refine j_aload_n (pc := 630) X dL_law_630 rfl (q := 1) rfl ?_
  refine j_iload_n (pc := 631) X dL_law_631 rfl (q := 0) rfl ?_
  refine j_iconst (pc := 632) X (v := nI 1) dL_law_632 (by decide) ?_
  refine j_iadd (pc := 633) X (v := nI (i + 1)) dL_law_633 (nI_add _ _) ?_
  refine j_sld (pc := 634) X hX hbl hbA (i := i + 1) (by omega) (by omega) dL_law_634 ?_
  refine j_aload_n (pc := 635) X dL_law_635 rfl (q := 1) rfl ?_
  refine j_iload_n (pc := 636) X dL_law_636 rfl (q := 0) rfl ?_
  refine j_iconst (pc := 637) X (v := nI 2) dL_law_637 (by decide) ?_
  refine j_iadd (pc := 638) X (v := nI (i + 2)) dL_law_638 (nI_add _ _) ?_
  refine j_sld (pc := 639) X hX hbl hbA (i := i + 2) (by omega) (by omega) dL_law_639 ?_
  refine j_lperm (pq_c _ _ _ _ _ _ _ _) ?_
  refine j_cxV (pc := 640) X (As := [.int (xs (i + 1)), .int (xs (i + 2))]) (st := []) (c_X4_windLimit l D tA c a b f h x kp (xs (i + 1)) (xs (i + 2))) cd_X4_windLimit wm_L_87 0 rfl rfl rfl rfl ⟨Nat.le_of_ble_eq_true rfl, Nat.le_of_ble_eq_true rfl⟩ h0 rfl (Nat.le_of_ble_eq_true rfl) dL_law_640 ?_
  refine j_lperm (pq_c _ _ _ _ _ _ _ _).symm ?_
  refine j_aload_n (pc := 643) X dL_law_643 rfl (q := 3) rfl ?_
  refine j_aload_n (pc := 644) X dL_law_644 rfl (q := 1) rfl ?_
  refine j_iload_n (pc := 645) X dL_law_645 rfl (q := 0) rfl ?_
  refine j_iconst (pc := 646) X (v := nI 1) dL_law_646 (by decide) ?_
  refine j_iadd (pc := 647) X (v := nI (i + 1)) dL_law_647 (nI_add _ _) ?_
  refine j_sld (pc := 648) X hX hbl hbA (i := i + 1) (by omega) (by omega) dL_law_648 ?_
  refine j_aload_n (pc := 649) X dL_law_649 rfl (q := 1) rfl ?_
  refine j_iload_n (pc := 650) X dL_law_650 rfl (q := 0) rfl ?_
  refine j_iconst (pc := 651) X (v := nI 2) dL_law_651 (by decide) ?_
  refine j_iadd (pc := 652) X (v := nI (i + 2)) dL_law_652 (nI_add _ _) ?_
  refine j_sld (pc := 653) X hX hbl hbA (i := i + 2) (by omega) (by omega) dL_law_653 ?_
  refine j_lperm (pq_m _ _ _ _ _ _ _ _) ?_
  refine j_cxV (pc := 654) X (As := [.int (xs (i + 1)), .int (xs (i + 2))]) (st := [_]) (c_X5_windLimit l D tA m y s sn v kp len (xs (i + 1)) (xs (i + 2)) hrel) cd_X5_windLimit wm_L_90 0 rfl rfl rfl rfl ⟨Nat.le_of_ble_eq_true rfl, Nat.le_of_ble_eq_true rfl⟩ h0 rfl (Nat.le_of_ble_eq_true rfl) dL_law_654 ?_
  refine j_lperm (pq_m _ _ _ _ _ _ _ _).symm ?_
  refine j_icmp_eq_t (pc := 657) X (tgt := 939) dL_law_657 (by decide) rfl ?_
  exact ih s sn s3 v kp len ch p t T y ⟨hrel, hsn, hs3, hh, hl, hch, hp, ht, hT⟩
set_option maxHeartbeats 4000000 in
set_option maxRecDepth 100000 in
theorem law_count {l : Launch} {D : va_G} {tA : Nat → ClassId} {G : kCx} {n k b0 L : Nat} {xs : Nat → Int32} (hC : LCx D tA G n k b0 L xs) {c : Nat} {a b f h x m : Nat → Nat} {d : Nat → Nat → Nat} {i : Nat} (hi : i + 6 ≤ L)  (s sn s3 : Sg) (v : Hs) (kp : Bool) (len : Nat) (ch : Nat → Nat) (p : Nat) (t : Tb) (T : Nat → Nat) (y : MX) (hinv : LInv s sn s3 v kp len ch p t T y) (ih : ∀ (s sn s3 : Sg) (v : Hs) (kp : Bool) (len : Nat) (ch : Nat → Nat) (p : Nat) (t : Tb) (T : Nat → Nat) (y : MX), LInv s sn s3 v kp len ch p t T y → J l D G n k (lawW tA c a b f h x m d s sn s3 v kp len ch p t T y) [(3, .int (nI i)), (0, .ref b0), (1, .ref c), (2, .ref (m 0))] 939 []) : J l D G n k (lawW tA c a b f h x m d s sn s3 v kp len ch p t T y) [(3, .int (nI i)), (0, .ref b0), (1, .ref c), (2, .ref (m 0))] 916 [] := by
  obtain ⟨X, h0, hX, hbl, hbA, hL⟩ := hC
  obtain ⟨hrel, hsn, hs3, hh, hl, hch, hp, ht, hT⟩ := hinv
  have hw := hrel.2.1.1
  have hnx := hrel.2.2.1
  have hsz := hrel.2.2.2.1
  refine j_aload_n (pc := 916) X dL_law_916 rfl (q := 2) rfl ?_
  refine j_aload_n (pc := 917) X dL_law_917 rfl (q := 1) rfl ?_
  refine j_iload_n (pc := 918) X dL_law_918 rfl (q := 0) rfl ?_
  refine j_iconst (pc := 919) X (v := nI 1) dL_law_919 (by decide) ?_
  refine j_iadd (pc := 920) X (v := nI (i + 1)) dL_law_920 (nI_add _ _) ?_
  refine j_sld (pc := 921) X hX hbl hbA (i := i + 1) (by omega) (by omega) dL_law_921 ?_
  refine j_lperm (pq_e _ _ _ _ _ _ _ _) ?_
  refine j_cxV (pc := 922) X (As := [.int (xs (i + 1))]) (st := []) (c_X4_count l D tA c a b f h x kp s d v ch len p t (xs (i + 1)) hw) cd_X4_count wm_L_123 0 rfl rfl rfl fst_e ⟨Nat.le_of_ble_eq_true rfl, Nat.le_of_ble_eq_true rfl⟩ h0 rfl (Nat.le_of_ble_eq_true rfl) dL_law_922 ?_
  refine j_lperm (pq_e _ _ _ _ _ _ _ _).symm ?_
  refine j_aload_n (pc := 925) X dL_law_925 rfl (q := 3) rfl ?_
  refine j_aload_n (pc := 926) X dL_law_926 rfl (q := 1) rfl ?_
  refine j_iload_n (pc := 927) X dL_law_927 rfl (q := 0) rfl ?_
  refine j_iconst (pc := 928) X (v := nI 1) dL_law_928 (by decide) ?_
  refine j_iadd (pc := 929) X (v := nI (i + 1)) dL_law_929 (nI_add _ _) ?_
  refine j_sld (pc := 930) X hX hbl hbA (i := i + 1) (by omega) (by omega) dL_law_930 ?_
  refine j_lperm (pq_m _ _ _ _ _ _ _ _) ?_
  refine j_cxV (pc := 931) X (As := [.int (xs (i + 1))]) (st := [_]) (c_X5_count l D tA m y s sn v kp len (xs (i + 1)) hrel) cd_X5_count wm_L_126 0 rfl rfl rfl rfl ⟨Nat.le_of_ble_eq_true rfl, Nat.le_of_ble_eq_true rfl⟩ h0 rfl (Nat.le_of_ble_eq_true rfl) dL_law_931 ?_
  refine j_lperm (pq_m _ _ _ _ _ _ _ _).symm ?_
  refine j_icmp_eq_t (pc := 934) X (tgt := 939) dL_law_934 (by decide) rfl ?_
  exact ih s sn s3 v kp len ch p t T y ⟨hrel, hsn, hs3, hh, hl, hch, hp, ht, hT⟩
