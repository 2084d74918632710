/-! CHAINS: the class' tables, filled from the front -/
/-- the ways and points noted so far: the first P single words; the steps (set, last, next) below N -/
def cWg (d : Nat → Int32) (p r t l b : Nat) : Nat := if t.testBit l = true ∧ sBit d p t ≤ mFree d r ∧ ¬ t - 2 ^ l = 0 then cWf d p r t l b else 0
def cBg (d : Nat → Int32) (p r t l b : Nat) : Nat := if t.testBit l = true ∧ sBit d p t ≤ mFree d r ∧ ¬ t - 2 ^ l = 0 then cBf d p r t l b else 0
def cW0 (d : Nat → Int32) (p r P t l : Nat) : Nat := if t = 2 ^ l ∧ l < P ∧ mHin d p l r = 0 then 1 else 0
def cB0 (d : Nat → Int32) (p r P t l : Nat) : Nat := if t = 2 ^ l ∧ l < P ∧ mHin d p l r = 0 then mPts d p l r else 0
def at3 (t l b : Nat) : Nat := (t - 2 ^ l) * 64 + b * 8 + l
def cW (d : Nat → Int32) (p r P N t l : Nat) : Nat := cW0 d p r P t l + sumN (fun b => if at3 t l b < N then cWg d p r t l b else 0) (mMany d p)
def cB (d : Nat → Int32) (p r P N t l : Nat) : Nat := max (cB0 d p r P t l) (maxN (fun b => if at3 t l b < N then cBg d p r t l b else 0) (mMany d p))
theorem sumN_split {f g : Nat → Nat} {k0 c : Nat} : ∀ n, k0 < n → (∀ k, k < n → k ≠ k0 → g k = f k) → g k0 = f k0 + c → sumN g n = sumN f n + c
  | 0, h, _, _ => absurd h (Nat.not_lt_zero _)
  | n + 1, h, h1, h2 => by
    show sumN g n + g n = sumN f n + f n + c
    by_cases q : k0 = n
    · subst q
      rw [h2, sumN_congr (g := f) k0 (fun k z => h1 k (by omega) (by omega))]
      omega
    · rw [sumN_split n (by omega) (fun k z y => h1 k (by omega) y) h2, h1 n (by omega) (fun y => q y.symm)]
      omega
theorem maxN_split {f g : Nat → Nat} {k0 c : Nat} : ∀ n, k0 < n → (∀ k, k < n → k ≠ k0 → g k = f k) → g k0 = max (f k0) c → maxN g n = max (maxN f n) c
  | 0, h, _, _ => absurd h (Nat.not_lt_zero _)
  | n + 1, h, h1, h2 => by
    show max (maxN g n) (g n) = max (max (maxN f n) (f n)) c
    by_cases q : k0 = n
    · subst q
      rw [h2, maxN_congr (g := f) k0 (fun k z => h1 k (by omega) (by omega)), Nat.max_assoc]
    · rw [maxN_split n (by omega) (fun k z y => h1 k (by omega) y) h2, h1 n (by omega) (fun y => q y.symm), Nat.max_assoc, Nat.max_assoc, Nat.max_comm c]
section CT
variable {d : Nat → Int32} {p r : Nat}
theorem sBit_add {t k : Nat} (ht : t < 256) (hk : k < 8) (h : t.testBit k = false) : sBit d p (t + 2 ^ k) = sBit d p t + mLen d p k := by
  have b := bit_add t ht k hk h
  unfold sBit
  refine sumN_split 8 hk (fun j hj hn => ?_) ?_
  · rw [bit_oth t ht k hk h j hj hn]
  · rw [b.2.1, if_pos rfl, h]
    exact (Nat.zero_add _).symm
theorem bit_back {t l : Nat} (ht : t < 256) (hl : l < 8) (h : t.testBit l = true) : t = (t - 2 ^ l) + 2 ^ l := by
  have := (bit_sub t ht l hl h).1
  omega
/-- a step adds just its own entry -/
theorem cW_step {P s L Q t l : Nat} (hs : s < 256) (hL : L < 8) (hLn : L < mMany d p) (h8 : mMany d p ≤ 8) (hQ : Q < 8) (h0 : ¬ s = 0) (hl : l < 8) (ht : t < 256) :
    cW d p r P (s * 64 + L * 8 + Q + 1) t l = cW d p r P (s * 64 + L * 8 + Q) t l + (if s.testBit Q = false ∧ t = s + 2 ^ Q ∧ l = Q then cWg d p r t l L else 0) := by
  unfold cW
  by_cases z : t.testBit l = true ∧ t - 2 ^ l = s ∧ l = Q
  · obtain ⟨z1, z2, z3⟩ := z
    have bb := bit_back ht hl z1
    have sb := bit_sub t ht l hl z1
    rw [if_pos ⟨by rw [← z2, ← z3]; exact sb.2.2, by rw [← z2, ← z3]; exact bb, z3⟩]
    refine (congrArg (fun x => cW0 d p r P t l + x) (sumN_split _ hLn (fun b hb hn => ?_) ?_)).trans (Nat.add_assoc _ _ _).symm
    · unfold at3
      rw [z2, z3]
      by_cases y : b < L
      · rw [if_pos (by omega), if_pos (by omega)]
      · rw [if_neg (by omega), if_neg (by omega)]
    · unfold at3
      rw [z2, z3, if_pos (by omega), if_neg (by omega), Nat.zero_add]
  · have e : sumN (fun b => if at3 t l b < s * 64 + L * 8 + Q + 1 then cWg d p r t l b else 0) (mMany d p) = sumN (fun b => if at3 t l b < s * 64 + L * 8 + Q then cWg d p r t l b else 0) (mMany d p) := by
      refine sumN_congr _ (fun b hb => ?_)
      by_cases y : at3 t l b < s * 64 + L * 8 + Q
      · rw [if_pos y, if_pos (by omega)]
      · rw [if_neg y]
        by_cases x : at3 t l b < s * 64 + L * 8 + Q + 1
        · rw [if_pos x]
          unfold cWg
          refine if_neg (fun w => z ⟨w.1, ?_, ?_⟩)
          · unfold at3 at x y
            omega
          · unfold at3 at x y
            omega
        · rw [if_neg x]
    rw [e, if_neg (fun w => z ⟨?_, ?_, w.2.2⟩), Nat.add_zero]
    · have b := bit_add s hs Q hQ w.1
      rw [w.2.1, w.2.2]; exact b.2.1
    · rw [w.2.1, w.2.2, Nat.add_sub_cancel]
theorem cB_step {P s L Q t l : Nat} (hs : s < 256) (hL : L < 8) (hLn : L < mMany d p) (h8 : mMany d p ≤ 8) (hQ : Q < 8) (h0 : ¬ s = 0) (hl : l < 8) (ht : t < 256) :
    cB d p r P (s * 64 + L * 8 + Q + 1) t l = max (cB d p r P (s * 64 + L * 8 + Q) t l) (if s.testBit Q = false ∧ t = s + 2 ^ Q ∧ l = Q then cBg d p r t l L else 0) := by
  unfold cB
  by_cases z : t.testBit l = true ∧ t - 2 ^ l = s ∧ l = Q
  · obtain ⟨z1, z2, z3⟩ := z
    have bb := bit_back ht hl z1
    have sb := bit_sub t ht l hl z1
    rw [if_pos ⟨by rw [← z2, ← z3]; exact sb.2.2, by rw [← z2, ← z3]; exact bb, z3⟩]
    refine (congrArg (fun x => max (cB0 d p r P t l) x) (maxN_split _ hLn (fun b hb hn => ?_) ?_)).trans (Nat.max_assoc _ _ _).symm
    · unfold at3
      rw [z2, z3]
      by_cases y : b < L
      · rw [if_pos (by omega), if_pos (by omega)]
      · rw [if_neg (by omega), if_neg (by omega)]
    · unfold at3
      rw [z2, z3, if_pos (by omega), if_neg (by omega), Nat.max_eq_right (Nat.zero_le _)]
  · have e : maxN (fun b => if at3 t l b < s * 64 + L * 8 + Q + 1 then cBg d p r t l b else 0) (mMany d p) = maxN (fun b => if at3 t l b < s * 64 + L * 8 + Q then cBg d p r t l b else 0) (mMany d p) := by
      refine maxN_congr _ (fun b hb => ?_)
      by_cases y : at3 t l b < s * 64 + L * 8 + Q
      · rw [if_pos y, if_pos (by omega)]
      · rw [if_neg y]
        by_cases x : at3 t l b < s * 64 + L * 8 + Q + 1
        · rw [if_pos x]
          unfold cBg
          refine if_neg (fun w => z ⟨w.1, ?_, ?_⟩)
          · unfold at3 at x y
            omega
          · unfold at3 at x y
            omega
        · rw [if_neg x]
    rw [e, if_neg (fun w => z ⟨?_, ?_, w.2.2⟩), Nat.max_eq_left (Nat.zero_le _)]
    · have b := bit_add s hs Q hQ w.1
      rw [w.2.1, w.2.2]; exact b.2.1
    · rw [w.2.1, w.2.2, Nat.add_sub_cancel]
end CT
