/-! A WORD LAID: what each cell holds -/
section LV
variable {d : Nat → Int32} {k r : Nat}
theorem lay2_ot {i : Nat} (h1 : i < 36 + 45 * r + 1 ∨ 36 + 45 * r + 4 < i) (h2 : i < 306 + 74 * dn d 5 ∨ 306 + 74 * dn d 5 + 1 < i) : lay2 d k r i = lay1 d k r (mLen d (dn d 5) k) i := by
  unfold lay2
  rw [upd_ot _ _ (show i ≠ 306 + 74 * dn d 5 + 1 by omega), upd_ot _ _ (show i ≠ 306 + 74 * dn d 5 by omega), upd_ot _ _ (show i ≠ 36 + 45 * r + 4 by omega), upd_ot _ _ (show i ≠ 36 + 45 * r + 3 by omega), upd_ot _ _ (show i ≠ 36 + 45 * r + 2 by omega), upd_ot _ _ (show i ≠ 36 + 45 * r + 1 by omega)]
theorem lay2_1 (hr : r < 6) : lay2 d k r (36 + 45 * r + 1) = nI (mUse d r + mLen d (dn d 5) k) := by
  unfold lay2
  rw [upd_ot _ _ (show 36 + 45 * r + 1 ≠ 306 + 74 * dn d 5 + 1 by omega), upd_ot _ _ (show 36 + 45 * r + 1 ≠ 306 + 74 * dn d 5 by omega), upd_ot _ _ (show 36 + 45 * r + 1 ≠ 36 + 45 * r + 4 by omega), upd_ot _ _ (show 36 + 45 * r + 1 ≠ 36 + 45 * r + 3 by omega), upd_ot _ _ (show 36 + 45 * r + 1 ≠ 36 + 45 * r + 2 by omega)]
  exact upd_at _ _ _
theorem lay2_2 (hr : r < 6) : lay2 d k r (36 + 45 * r + 2) = nI (mWds d r + 1) := by
  unfold lay2
  rw [upd_ot _ _ (show 36 + 45 * r + 2 ≠ 306 + 74 * dn d 5 + 1 by omega), upd_ot _ _ (show 36 + 45 * r + 2 ≠ 306 + 74 * dn d 5 by omega), upd_ot _ _ (show 36 + 45 * r + 2 ≠ 36 + 45 * r + 4 by omega), upd_ot _ _ (show 36 + 45 * r + 2 ≠ 36 + 45 * r + 3 by omega)]
  exact upd_at _ _ _
theorem lay2_3 (hr : r < 6) : lay2 d k r (36 + 45 * r + 3) = nI (dn d 5) := by
  unfold lay2
  rw [upd_ot _ _ (show 36 + 45 * r + 3 ≠ 306 + 74 * dn d 5 + 1 by omega), upd_ot _ _ (show 36 + 45 * r + 3 ≠ 306 + 74 * dn d 5 by omega), upd_ot _ _ (show 36 + 45 * r + 3 ≠ 36 + 45 * r + 4 by omega)]
  exact upd_at _ _ _
theorem lay2_4 (hr : r < 6) : lay2 d k r (36 + 45 * r + 4) = nI (mLen d (dn d 5) k) := by
  unfold lay2
  rw [upd_ot _ _ (show 36 + 45 * r + 4 ≠ 306 + 74 * dn d 5 + 1 by omega), upd_ot _ _ (show 36 + 45 * r + 4 ≠ 306 + 74 * dn d 5 by omega)]
  exact upd_at _ _ _
theorem lay2_pts : lay2 d k r (306 + 74 * dn d 5) = d (306 + 74 * dn d 5) + nI (mPts d (dn d 5) k r) := by
  unfold lay2
  rw [upd_ot _ _ (show 306 + 74 * dn d 5 ≠ 306 + 74 * dn d 5 + 1 by omega)]
  exact upd_at _ _ _
theorem lay2_many : lay2 d k r (306 + 74 * dn d 5 + 1) = nI (mMany d (dn d 5) - 1) := upd_at _ _ _
/-- below the hand of the player, lay4 is lay2 -/
theorem lay4_lo {i : Nat} (h7 : i ≠ 7) (h : i < 306 + 74 * dn d 5 + 2 + 9 * k ∨ 306 + 74 * dn d 5 + 2 + 9 * k + 9 * (mMany d (dn d 5) - 1 - k) ≤ i) : lay4 d k r i = lay2 d k r i := by
  unfold lay4
  rw [upd_ot _ _ h7]
  exact cpy_out h
theorem lay4_7 : lay4 d k r 7 = 0 := upd_at _ _ _
/-- the cells of other rows, other players, and those before them -/
theorem lay4_far {i : Nat} (h7 : i ≠ 7) (hu : mUse d r + mLen d (dn d 5) k ≤ 40) (hr : r < 6) (hc : k < mMany d (dn d 5)) (h8 : mMany d (dn d 5) ≤ 8) (h1 : i < 36 + 45 * r ∨ 36 + 45 * r + 45 ≤ i) (h2 : i < 306 + 74 * dn d 5 ∨ 306 + 74 * dn d 5 + 74 ≤ i) : lay4 d k r i = d i := by
  rw [lay4_lo h7 (by omega), lay2_ot (by omega) (by omega)]
  exact cpy_out (by show i < 36 + 45 * r + 5 + mUse d r ∨ 36 + 45 * r + 5 + mUse d r + mLen d (dn d 5) k ≤ i; omega)
theorem lay4_row {j : Nat} (hr : r < 6) (hj : j < 45) : lay4 d k r (36 + 45 * r + j) = lay2 d k r (36 + 45 * r + j) := lay4_lo (by omega) (by omega)
theorem lay4_let {j : Nat} (hr : r < 6) (hj : j < mUse d r) (h40 : mUse d r ≤ 40) : lay4 d k r (36 + 45 * r + 5 + j) = d (36 + 45 * r + 5 + j) := by
  rw [Nat.add_assoc, lay4_row hr (by omega), lay2_ot (by omega) (by omega)]
  exact cpy_out (Or.inl (by show 36 + 45 * r + (5 + j) < 36 + 45 * r + 5 + mUse d r; omega))
theorem lay4_new {j : Nat} (hr : r < 6) (hj : j < mLen d (dn d 5) k) (h40 : mUse d r + mLen d (dn d 5) k ≤ 40) : lay4 d k r (36 + 45 * r + 5 + (mUse d r + j)) = d (306 + 74 * dn d 5 + 2 + 9 * k + 1 + j) := by
  rw [Nat.add_assoc (36 + 45 * r), lay4_row hr (by omega), lay2_ot (by omega) (by omega), show 36 + 45 * r + (5 + (mUse d r + j)) = 36 + 45 * r + 5 + mUse d r + j by omega]
  exact cpy_in hj
/-- the hand: the words before, and those after -/
theorem lay4_bef {q j : Nat} (hr : r < 6) (hq : q < k) (hj : j < 9) (hu : mUse d r + mLen d (dn d 5) k ≤ 40) : lay4 d k r (306 + 74 * dn d 5 + 2 + 9 * q + j) = d (306 + 74 * dn d 5 + 2 + 9 * q + j) := by
  rw [lay4_lo (by omega) (by omega), lay2_ot (by omega) (by omega)]
  exact cpy_out (Or.inr (by show 36 + 45 * r + 5 + mUse d r + mLen d (dn d 5) k ≤ _; omega))
theorem lay4_aft {q j : Nat} (hr : r < 6) (hk : k ≤ q) (hq : q + 1 < mMany d (dn d 5)) (hj : j < 9) (hu : mUse d r + mLen d (dn d 5) k ≤ 40) : lay4 d k r (306 + 74 * dn d 5 + 2 + 9 * q + j) = d (306 + 74 * dn d 5 + 2 + 9 * (q + 1) + j) := by
  unfold lay4
  rw [upd_ot _ _ (by omega), show 306 + 74 * dn d 5 + 2 + 9 * q + j = 306 + 74 * dn d 5 + 2 + 9 * k + (9 * (q - k) + j) by omega]
  refine (cpy_in (show 9 * (q - k) + j < 9 * (mMany d (dn d 5) - 1 - k) by omega)).trans ?_
  rw [show wA (dn d 5) k + 9 + (9 * (q - k) + j) = 306 + 74 * dn d 5 + 2 + 9 * (q + 1) + j by show 306 + 74 * dn d 5 + 2 + 9 * k + 9 + (9 * (q - k) + j) = _; omega, lay2_ot (by omega) (by omega)]
  exact cpy_out (Or.inr (by show 36 + 45 * r + 5 + mUse d r + mLen d (dn d 5) k ≤ _; omega))
end LV
