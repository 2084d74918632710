/-! CHAINS: what both sides count -/
def maxN (f : Nat → Nat) : Nat → Nat
  | 0 => 0
  | n + 1 => max (maxN f n) (f n)
theorem maxN_le {f : Nat → Nat} {c : Nat} : ∀ n, (∀ k, k < n → f k ≤ c) → maxN f n ≤ c
  | 0, _ => Nat.zero_le _
  | n + 1, h => Nat.max_le.mpr ⟨maxN_le n (fun k hk => h k (by omega)), h n (by omega)⟩
theorem maxN_congr {f g : Nat → Nat} : ∀ n, (∀ k, k < n → f k = g k) → maxN f n = maxN g n
  | 0, _ => rfl
  | n + 1, h => by
    show max _ _ = max _ _
    rw [maxN_congr n (fun k hk => h k (by omega)), h n (by omega)]
def pop (m : Nat) : Nat := sumN (fun k => if m.testBit k then 1 else 0) 8
theorem pop_le : ∀ m, m < 256 → pop m ≤ 8 := by decide +kernel
theorem bit_sub : ∀ m, m < 256 → ∀ k, k < 8 → m.testBit k = true → 2 ^ k ≤ m ∧ pop (m - 2 ^ k) + 1 = pop m ∧ (m - 2 ^ k).testBit k = false := by decide +kernel
theorem bit_add : ∀ m, m < 256 → ∀ k, k < 8 → m.testBit k = false → m + 2 ^ k < 256 ∧ (m + 2 ^ k).testBit k = true ∧ pop (m + 2 ^ k) = pop m + 1 := by decide +kernel
theorem bit_oth0 : ∀ m, m < 256 → ∀ k, k < 8 → ∀ j, j < 8 → (m.testBit k = true ∨ j = k ∨ (m + 2 ^ k).testBit j = m.testBit j) := by decide +kernel
theorem bit_oth (m : Nat) (hm : m < 256) (k : Nat) (hk : k < 8) (h : m.testBit k = false) (j : Nat) (hj : j < 8) (hn : j ≠ k) : (m + 2 ^ k).testBit j = m.testBit j := by
  rcases bit_oth0 m hm k hk j hj with q | q | q
  · rw [h] at q; cases q
  · exact absurd q hn
  · exact q
theorem bit_one : ∀ k, k < 8 → (2 ^ k).testBit k = true ∧ pop (2 ^ k) = 1 ∧ ∀ j, j < 8 → j ≠ k → (2 ^ k).testBit j = false := by decide +kernel
theorem bit_lt {m k n : Nat} (hm : m < 2 ^ n) (h : m.testBit k = true) : k < n := by
  rcases Nat.lt_or_ge k n with q | q
  · exact q
  · have := Nat.testBit_lt_two_pow (Nat.lt_of_lt_of_le hm (Nat.pow_le_pow_right (by decide) q))
    rw [this] at h
    cases h
theorem tb_lt {t l : Nat} (h : t.testBit l = true) : t - 2 ^ l < t := by
  have h1 := Nat.ge_two_pow_of_testBit h
  have h2 := Nat.two_pow_pos l
  omega
theorem pw_8 : ∀ n, n ≤ 8 → 2 ^ n ≤ 256 := by decide
/-- a word's rhyme with another; whether it can follow; the crown -/
def chR (d : Nat → Int32) (p a b : Nat) : Nat := rh d (wA p a + 1) (mLen d p a) (wA p b + 1) (mLen d p b)
def chF (d : Nat → Int32) (p a b : Nat) : Bool := !(smw d (wA p a + 1) (mLen d p a) (wA p b + 1) (mLen d p b)) && decide (dn d 2 ≤ chR d p a b)
def chC (d : Nat → Int32) (p r t : Nat) : Nat := if sBit d p t = mFree d r then dn d 4 * (mWds d r + pop t) else 0
/-- the chains of the words of t, the last one at l: how many, and the most points -/
def chW (d : Nat → Int32) (p r : Nat) (t l : Nat) : Nat :=
  if h : t.testBit l = true ∧ sBit d p t ≤ mFree d r then (if t - 2 ^ l = 0 then (if mHin d p l r = 0 then 1 else 0) else sumN (fun b => if chF d p b l = true then chW d p r (t - 2 ^ l) b else 0) (mMany d p)) else 0
termination_by t
decreasing_by exact tb_lt h.1
def chB (d : Nat → Int32) (p r : Nat) (t l : Nat) : Nat :=
  if h : t.testBit l = true ∧ sBit d p t ≤ mFree d r then (if t - 2 ^ l = 0 then (if mHin d p l r = 0 then mLen d p l + dn d 3 * mRht d p l r + chC d p r t else 0) else maxN (fun b => if chF d p b l = true ∧ ¬ chW d p r (t - 2 ^ l) b = 0 then chB d p r (t - 2 ^ l) b + mLen d p l + dn d 3 * chR d p b l + chC d p r t else 0) (mMany d p)) else 0
termination_by t
decreasing_by exact tb_lt h.1
section CS
variable {d : Nat → Int32} {p r : Nat}
theorem chW_no {t l : Nat} (h : ¬ (t.testBit l = true ∧ sBit d p t ≤ mFree d r)) : chW d p r t l = 0 := by rw [chW, dif_neg h]
theorem chB_no {t l : Nat} (h : ¬ (t.testBit l = true ∧ sBit d p t ≤ mFree d r)) : chB d p r t l = 0 := by rw [chB, dif_neg h]
theorem chW_1 {t l : Nat} (h : t.testBit l = true ∧ sBit d p t ≤ mFree d r) (h0 : t - 2 ^ l = 0) : chW d p r t l = if mHin d p l r = 0 then 1 else 0 := by rw [chW, dif_pos h, if_pos h0]
theorem chB_1 {t l : Nat} (h : t.testBit l = true ∧ sBit d p t ≤ mFree d r) (h0 : t - 2 ^ l = 0) : chB d p r t l = if mHin d p l r = 0 then mLen d p l + dn d 3 * mRht d p l r + chC d p r t else 0 := by rw [chB, dif_pos h, if_pos h0]
def cWf (d : Nat → Int32) (p r t l b : Nat) : Nat := if chF d p b l = true then chW d p r (t - 2 ^ l) b else 0
def cBf (d : Nat → Int32) (p r t l b : Nat) : Nat := if chF d p b l = true ∧ ¬ chW d p r (t - 2 ^ l) b = 0 then chB d p r (t - 2 ^ l) b + mLen d p l + dn d 3 * chR d p b l + chC d p r t else 0
theorem chW_s {t l : Nat} (h : t.testBit l = true ∧ sBit d p t ≤ mFree d r) (h0 : ¬ t - 2 ^ l = 0) : chW d p r t l = sumN (cWf d p r t l) (mMany d p) := by
  rw [chW, dif_pos h, if_neg h0]
  rfl
theorem chB_s {t l : Nat} (h : t.testBit l = true ∧ sBit d p t ≤ mFree d r) (h0 : ¬ t - 2 ^ l = 0) : chB d p r t l = maxN (cBf d p r t l) (mMany d p) := by
  rw [chB, dif_pos h, if_neg h0]
  rfl
theorem chR_le (a b : Nat) : chR d p a b ≤ mLen d p a := Nat.le_trans (rh_le _ _ _ _ _) (Nat.min_le_left _ _)
theorem chC_le (W : WF d) (hr : r < 6) {t : Nat} (ht : t < 256) : chC d p r t ≤ 4752 := by
  have w := W.2.2.1 r hr
  have b4 : dn d 4 ≤ 99 := W.2.1.2.2.2.2.1
  have := pop_le t ht
  unfold chC
  split
  · exact Nat.le_trans (Nat.mul_le_mul b4 (show mWds d r + pop t ≤ 48 by omega)) (by decide)
  · exact Nat.zero_le _
theorem chW_le (W : WF d) (hp : p < 4) : ∀ (t l : Nat), t < 256 → chW d p r t l ≤ 8 ^ pop t := by
  intro t
  induction t using Nat.strongRecOn with
  | _ t ih =>
    intro l ht
    by_cases h : t.testBit l = true ∧ sBit d p t ≤ mFree d r
    · have l8 : l < 8 := bit_lt (n := 8) ht h.1
      have hs := bit_sub t ht l l8 h.1
      by_cases h0 : t - 2 ^ l = 0
      · rw [chW_1 h h0]
        have : 0 < 8 ^ pop t := Nat.pow_pos (by decide)
        split <;> omega
      · rw [chW_s h h0, ← hs.2.1, Nat.pow_succ, Nat.mul_comm]
        have hn := (W.2.2.2 p hp).1
        refine Nat.le_trans (sumN_le (c := 8 ^ pop (t - 2 ^ l)) _ (fun b hb => ?_)) (Nat.mul_le_mul_right _ hn)
        unfold cWf
        split
        · exact ih _ (tb_lt h.1) b (Nat.lt_trans (tb_lt h.1) ht)
        · exact Nat.zero_le _
    · rw [chW_no h]; exact Nat.zero_le _
theorem chW_lt (W : WF d) (hp : p < 4) {t : Nat} (l : Nat) (ht : t < 256) : chW d p r t l < 2 ^ 31 := by
  have h := chW_le (r := r) W hp t l ht
  have h2 : 8 ^ pop t ≤ 8 ^ 8 := Nat.pow_le_pow_right (by decide) (pop_le t ht)
  exact Nat.lt_of_le_of_lt (Nat.le_trans h h2) (by decide)
theorem chB_le (W : WF d) (hp : p < 4) (hr : r < 6) : ∀ (t l : Nat), t < 2 ^ mMany d p → chB d p r t l ≤ 10000 * pop t := by
  intro t
  have w := W.2.2.2 p hp
  have p8 := pw_8 _ w.1
  have b3 : dn d 3 ≤ 9 := W.2.1.2.2.2.1
  induction t using Nat.strongRecOn with
  | _ t ih =>
    intro l ht
    by_cases h : t.testBit l = true ∧ sBit d p t ≤ mFree d r
    · have ln := bit_lt ht h.1
      have hs := bit_sub t (by omega) l (by omega) h.1
      have hl := ((w.2 l ln).1).2
      have hc := chC_le (p := p) W hr (show t < 256 by omega)
      by_cases h0 : t - 2 ^ l = 0
      · rw [chB_1 h h0]
        have h1 : dn d 3 * mRht d p l r ≤ 9 * 8 := Nat.mul_le_mul b3 (Nat.le_trans (mRht_le d p l r) hl)
        split <;> omega
      · rw [chB_s h h0]
        refine maxN_le _ (fun b hb => ?_)
        unfold cBf
        split
        · have hb8 := ((w.2 b hb).1).2
          have h1 : dn d 3 * chR d p b l ≤ 9 * 8 := Nat.mul_le_mul b3 (Nat.le_trans (chR_le b l) hb8)
          have h2 := ih _ (tb_lt h.1) b (Nat.lt_trans (tb_lt h.1) ht)
          omega
        · exact Nat.zero_le _
    · rw [chB_no h]; exact Nat.zero_le _
theorem sumN_0 : ∀ {n : Nat} {f : Nat → Nat}, sumN f n = 0 → ∀ k, k < n → f k = 0
  | 0, _, _, k, hk => absurd hk (Nat.not_lt_zero k)
  | n + 1, f, h, k, hk => by
    have h' : sumN f n + f n = 0 := h
    by_cases q : k = n
    · subst q; omega
    · exact sumN_0 (show sumN f n = 0 by omega) k (by omega)
/-- no chains, no points -/
theorem chB_W {t l : Nat} (h : chW d p r t l = 0) : chB d p r t l = 0 := by
  by_cases q : t.testBit l = true ∧ sBit d p t ≤ mFree d r
  · by_cases h0 : t - 2 ^ l = 0
    · rw [chW_1 q h0] at h
      rw [chB_1 q h0]
      split
      · next z => rw [if_pos z] at h; cases h
      · rfl
    · rw [chW_s q h0] at h
      rw [chB_s q h0]
      refine Nat.le_antisymm (maxN_le _ (fun b hb => ?_)) (Nat.zero_le _)
      have z := sumN_0 h b hb
      unfold cWf at z
      unfold cBf
      split
      · next y => rw [if_pos y.1] at z; exact absurd z y.2
      · exact Nat.le_refl 0
  · exact chB_no q
end CS
/-- sums (2) and greatest ones (0, 1) -/
def cmb (w a b : Nat) : Nat := if w = 2 then a + b else max a b
def fld (w : Nat) (f : Nat → Nat) : Nat → Nat
  | 0 => 0
  | n + 1 => cmb w (fld w f n) (f n)
theorem cmb_0 (w a : Nat) : cmb w a 0 = a := by
  unfold cmb
  split
  · rfl
  · exact Nat.max_eq_left (Nat.zero_le _)
theorem cmb_ac (w a b c : Nat) : cmb w (cmb w a b) c = cmb w (cmb w a c) b := by
  unfold cmb
  split
  · omega
  · rw [Nat.max_assoc, Nat.max_comm b c, ← Nat.max_assoc]
theorem cmb_as (w a b c : Nat) : cmb w a (cmb w b c) = cmb w (cmb w a b) c := by
  unfold cmb
  split
  · omega
  · rw [Nat.max_assoc]
theorem fld_0 {w : Nat} {f : Nat → Nat} : ∀ {n : Nat}, (∀ k, k < n → f k = 0) → fld w f n = 0
  | 0, _ => rfl
  | n + 1, h => by
    show cmb w _ _ = 0
    rw [fld_0 (fun k hk => h k (by omega)), h n (by omega), cmb_0]
theorem fld_congr {w : Nat} {f g : Nat → Nat} : ∀ n, (∀ k, k < n → f k = g k) → fld w f n = fld w g n
  | 0, _ => rfl
  | n + 1, h => by
    show cmb w _ _ = cmb w _ _
    rw [fld_congr n (fun k hk => h k (by omega)), h n (by omega)]
theorem fld_upd {w : Nat} {f f' : Nat → Nat} {k0 v : Nat} (h0 : f' k0 = cmb w (f k0) v) : ∀ n, k0 < n → (∀ k, k < n → k ≠ k0 → f' k = f k) → fld w f' n = cmb w (fld w f n) v
  | 0, hk, _ => absurd hk (Nat.not_lt_zero _)
  | n + 1, hk, h => by
    show cmb w (fld w f' n) (f' n) = cmb w (cmb w (fld w f n) (f n)) v
    by_cases q : k0 = n
    · subst q
      rw [h0, fld_congr (g := f) k0 (fun k z => h k (by omega) (by omega)), cmb_as]
    · rw [fld_upd h0 n (by omega) (fun k z y => h k (by omega) y), h n (by omega) (fun y => q y.symm), cmb_ac]
theorem fld_le {w : Nat} (hw : w ≠ 2) {f : Nat → Nat} {c : Nat} : ∀ n, (∀ k, k < n → f k ≤ c) → fld w f n ≤ c
  | 0, _ => Nat.zero_le _
  | n + 1, h => by
    show cmb w _ _ ≤ c
    unfold cmb
    rw [if_neg hw]
    exact Nat.max_le.mpr ⟨fld_le hw n (fun k hk => h k (by omega)), h n (by omega)⟩
/-- of all chains 0 the most words, 1 the most points, 2 how many fill the row -/
def chG (d : Nat → Int32) (p r w : Nat) (W B : Nat) (t : Nat) : Nat := if w = 2 then (if sBit d p t = mFree d r then W else 0) else if w = 0 then (if W = 0 then 0 else pop t) else B
def chAll (d : Nat → Int32) (p r w : Nat) : Nat := fld w (fun t => fld w (fun l => chG d p r w (chW d p r t l) (chB d p r t l) t) (mMany d p)) (2 ^ mMany d p)
