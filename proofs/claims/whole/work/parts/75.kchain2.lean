/-! CHAINS: the class' tables are full where they are read -/
section CU
variable {d : Nat → Int32} {p r : Nat}
theorem hin_fit {l : Nat} (h : mHin d p l r = 0) : mLen d p l ≤ mFree d r := by
  rcases Nat.lt_or_ge (mFree d r) (mLen d p l) with q | q
  · unfold mHin at h
    rw [if_neg (by omega)] at h
    cases h
  · exact q
theorem cWg_0 {t l b : Nat} (h : ¬ (t.testBit l = true ∧ sBit d p t ≤ mFree d r ∧ ¬ t - 2 ^ l = 0)) : cWg d p r t l b = 0 := if_neg h
theorem cBg_0 {t l b : Nat} (h : ¬ (t.testBit l = true ∧ sBit d p t ≤ mFree d r ∧ ¬ t - 2 ^ l = 0)) : cBg d p r t l b = 0 := if_neg h
theorem cBg_W {t l b : Nat} (h : cWg d p r t l b = 0) : cBg d p r t l b = 0 := by
  unfold cWg at h
  unfold cBg
  split
  · next q =>
    rw [if_pos q] at h
    unfold cWf at h
    unfold cBf
    split
    · next y => rw [if_pos y.1] at h; exact absurd h y.2
    · rfl
  · rfl
theorem sumN_z {f : Nat → Nat} : ∀ n, (∀ k, k < n → f k = 0) → sumN f n = 0
  | 0, _ => rfl
  | n + 1, h => by
    show sumN f n + f n = 0
    rw [sumN_z n (fun k hk => h k (by omega)), h n (by omega)]
theorem maxN_z {f : Nat → Nat} : ∀ n, (∀ k, k < n → f k = 0) → maxN f n = 0
  | 0, _ => rfl
  | n + 1, h => by
    show max (maxN f n) (f n) = 0
    rw [maxN_z n (fun k hk => h k (by omega)), h n (by omega)]
    rfl
theorem at3_lt {t l b N : Nat} (hb : t.testBit l = true) (hl : l < 8) (b8 : b < 8) (hN : t * 64 ≤ N) : at3 t l b < N := by
  have := tb_lt hb
  unfold at3
  omega
theorem cW_full {t l N : Nat} (h8 : mMany d p ≤ 8) (hl : l < mMany d p) (hN : t * 64 ≤ N) : cW d p r (mMany d p) N t l = chW d p r t l := by
  unfold cW
  by_cases h : t.testBit l = true ∧ sBit d p t ≤ mFree d r
  · by_cases h0 : t - 2 ^ l = 0
    · have e : t = 2 ^ l := by
        have := Nat.ge_two_pow_of_testBit h.1
        omega
      rw [chW_1 h h0, sumN_z _ (fun b hb => by rw [cWg_0 (fun q => q.2.2 h0)]; exact ite_self 0)]
      unfold cW0
      by_cases z : mHin d p l r = 0
      · rw [if_pos ⟨e, hl, z⟩, if_pos z]
      · rw [if_neg (fun q => z q.2.2), if_neg z]
    · have e : ¬ t = 2 ^ l := fun q => h0 (by omega)
      rw [chW_s h h0]
      unfold cW0
      rw [if_neg (fun q => e q.1), Nat.zero_add]
      refine sumN_congr _ (fun b hb => ?_)
      rw [if_pos (at3_lt h.1 (by omega) (by omega) hN)]
      unfold cWg
      rw [if_pos ⟨h.1, h.2, h0⟩]
  · rw [chW_no h, sumN_z _ (fun b hb => by rw [cWg_0 (fun q => h ⟨q.1, q.2.1⟩)]; exact ite_self 0)]
    unfold cW0
    rw [if_neg]
    rintro ⟨q1, q2, q3⟩
    refine h ⟨by rw [q1]; exact (bit_one l (by omega)).1, ?_⟩
    rw [q1, sBit_one l (by omega)]
    exact hin_fit q3
theorem pts_C {l : Nat} (hl : l < 8) : mPts d p l r = mLen d p l + dn d 3 * mRht d p l r + chC d p r (2 ^ l) := by
  unfold mPts chC
  rw [sBit_one l hl, (bit_one l hl).2.1]
theorem cB_full {t l N : Nat} (h8 : mMany d p ≤ 8) (hl : l < mMany d p) (hN : t * 64 ≤ N) : cB d p r (mMany d p) N t l = chB d p r t l := by
  unfold cB
  by_cases h : t.testBit l = true ∧ sBit d p t ≤ mFree d r
  · by_cases h0 : t - 2 ^ l = 0
    · have e : t = 2 ^ l := by
        have := Nat.ge_two_pow_of_testBit h.1
        omega
      rw [chB_1 h h0, maxN_z _ (fun b hb => by rw [cBg_0 (fun q => q.2.2 h0)]; exact ite_self 0), Nat.max_eq_left (Nat.zero_le _)]
      unfold cB0
      by_cases z : mHin d p l r = 0
      · rw [if_pos ⟨e, hl, z⟩, if_pos z, pts_C (by omega), ← e]
      · rw [if_neg (fun q => z q.2.2), if_neg z]
    · have e : ¬ t = 2 ^ l := fun q => h0 (by omega)
      rw [chB_s h h0]
      unfold cB0
      rw [if_neg (fun q => e q.1), Nat.max_eq_right (Nat.zero_le _)]
      refine maxN_congr _ (fun b hb => ?_)
      rw [if_pos (at3_lt h.1 (by omega) (by omega) hN)]
      unfold cBg
      rw [if_pos ⟨h.1, h.2, h0⟩]
  · rw [chB_no h, maxN_z _ (fun b hb => by rw [cBg_0 (fun q => h ⟨q.1, q.2.1⟩)]; exact ite_self 0), Nat.max_eq_left (Nat.zero_le _)]
    unfold cB0
    rw [if_neg]
    rintro ⟨q1, q2, q3⟩
    refine h ⟨by rw [q1]; exact (bit_one l (by omega)).1, ?_⟩
    rw [q1, sBit_one l (by omega)]
    exact hin_fit q3
/-- steps that add nothing -/
theorem cW_eq {P N N' t l : Nat} (h : ∀ b, b < mMany d p → (at3 t l b < N ↔ at3 t l b < N') ∨ cWg d p r t l b = 0) : cW d p r P N t l = cW d p r P N' t l ∧ cB d p r P N t l = cB d p r P N' t l := by
  have e1 : ∀ b, b < mMany d p → (if at3 t l b < N then cWg d p r t l b else 0) = (if at3 t l b < N' then cWg d p r t l b else 0) := fun b hb => by
    rcases h b hb with q | q
    · by_cases z : at3 t l b < N
      · rw [if_pos z, if_pos (q.mp z)]
      · rw [if_neg z, if_neg (fun y => z (q.mpr y))]
    · rw [q, ite_self, ite_self]
  have e2 : ∀ b, b < mMany d p → (if at3 t l b < N then cBg d p r t l b else 0) = (if at3 t l b < N' then cBg d p r t l b else 0) := fun b hb => by
    rcases h b hb with q | q
    · by_cases z : at3 t l b < N
      · rw [if_pos z, if_pos (q.mp z)]
      · rw [if_neg z, if_neg (fun y => z (q.mpr y))]
    · rw [cBg_W q, ite_self, ite_self]
  unfold cW cB
  exact ⟨by rw [sumN_congr _ e1], by rw [maxN_congr _ e2]⟩
theorem cW_skip {P s L Q t l : Nat} (h8 : mMany d p ≤ 8) (hL : L < 8) (hQ : Q ≤ 8) (hl : l < mMany d p) (h : mMany d p ≤ Q ∨ chW d p r s L = 0) : cW d p r P (s * 64 + L * 8 + Q) t l = cW d p r P (s * 64 + (L + 1) * 8) t l ∧ cB d p r P (s * 64 + L * 8 + Q) t l = cB d p r P (s * 64 + (L + 1) * 8) t l := by
  refine cW_eq (fun b hb => ?_)
  by_cases z : t - 2 ^ l = s ∧ b = L
  · rcases h with h | h
    · left
      unfold at3
      rw [z.1, z.2]
      omega
    · right
      unfold cWg
      split
      · unfold cWf
        rw [z.1, z.2, h]
        exact ite_self 0
      · rfl
  · left
    unfold at3
    omega
theorem cW_next {P s t l : Nat} (h8 : mMany d p ≤ 8) (hl : l < mMany d p) : cW d p r P (s * 64 + mMany d p * 8) t l = cW d p r P ((s + 1) * 64) t l ∧ cB d p r P (s * 64 + mMany d p * 8) t l = cB d p r P ((s + 1) * 64) t l := by
  refine cW_eq (fun b hb => ?_)
  left
  unfold at3
  omega
/-- before any step -/
theorem cW_first {P t l : Nat} (h8 : mMany d p ≤ 8) (hl : l < mMany d p) : cW d p r P 64 t l = cW0 d p r P t l ∧ cB d p r P 64 t l = cB0 d p r P t l := by
  have z : ∀ b, b < mMany d p → (if at3 t l b < 64 then cWg d p r t l b else 0) = 0 ∧ (if at3 t l b < 64 then cBg d p r t l b else 0) = 0 := fun b hb => by
    by_cases q : at3 t l b < 64
    · unfold at3 at q
      rw [cWg_0 (fun y => y.2.2 (by omega)), cBg_0 (fun y => y.2.2 (by omega)), ite_self]
      exact ⟨rfl, rfl⟩
    · rw [if_neg q, if_neg q]; exact ⟨rfl, rfl⟩
  unfold cW cB
  rw [sumN_z _ (fun b hb => (z b hb).1), maxN_z _ (fun b hb => (z b hb).2), Nat.max_eq_left (Nat.zero_le _)]
  exact ⟨rfl, rfl⟩
end CU
