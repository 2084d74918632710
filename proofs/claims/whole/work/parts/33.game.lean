/-! THE RELATION: a Game block beside the model's data -/
/-- what stands behind a rank: a number (0, v), a fact (1, k), an operation (2 to 5, -) -/
abbrev TK : Type := Nat × Nat
def tkM : TK → List Nat
  | (0, v) => [0, v]
  | (1, k) => [1, k]
  | (o + 2, _) => [o + 2]
def tkC : TK → Int32
  | (0, v) => nI v
  | (1, k) => -nI (k + 1)
  | (o + 2, _) => -nI (o + 7)
/-- the numbers that wait behind the first of them; at most 11 at once -/
def tkD : List TK → Nat → Option Nat
  | [], n => some n
  | (0, v) :: l, n => if v ≤ 9999 ∧ n < 11 then tkD l (n + 1) else none
  | (1, k) :: l, n => if k ≤ 5 ∧ n < 11 then tkD l (n + 1) else none
  | (o + 2, _) :: l, n => if o ≤ 3 ∧ 2 ≤ n then tkD l (n - 1) else none
def RK (I : MI) (b : Nat) (d : Nat → Int32) : Prop := ∃ L : List TK, tkD L 0 = some 1 ∧ L.length ≤ 600 ∧ I b 2 2 = nI L.length ∧ (∀ i, i < L.length → I b 5 i = tkC (L.getD i (0, 0))) ∧
  (dn d 8 = 0 → L = [(1, 0)]) ∧ (dn d 8 ≠ 0 → dn d 9 = (L.flatMap tkM).length ∧ ∀ i, i < dn d 9 → dn d (602 + i) = (L.flatMap tkM).getD i 0)
def RC (I : MI) (J : MJ) (b : Nat) (d : Nat → Int32) : Prop :=
  (I b 1 3 = d 0 ∧ I b 1 4 = d 1 ∧ I b 1 5 = d 2 ∧ I b 1 6 = d 3 ∧ I b 1 7 = d 4 ∧ I b 0 9 = d 5 ∧ I b 0 11 = d 6 ∧ I b 0 10 = d 7) ∧ RG I b d ∧
  (∀ r, r < dn d 0 → I b 3 r = d (rA r) ∧ I b 8 r = d (rA r + 1) ∧ I b 9 r = d (rA r + 2) ∧ I b 11 r = d (rA r + 3) ∧ J b 10 r = lN (pkN d (mLat d r) (mLst d r)) ∧ ∀ t, t < mUse d r → I b 7 (40 * r + t) = d (rA r + 5 + t)) ∧
  (∀ p, p < dn d 1 → I b 13 p = d (pA p + 1) ∧ I b 14 p = d (pA p) ∧ ∀ k, k < mMany d p → J b 12 (8 * p + k) = lN (pkN d (wA p k + 1) (mLen d p k))) ∧
  RK I b d
section GR
variable {I : MI} {J : MJ} {d : Nat → Int32} {b : Nat}
theorem wf_rows (W : WF d) : dn d 0 ≤ 6 := W.2.1.1.2
theorem wf_pls (W : WF d) : dn d 1 ≤ 4 := W.2.1.2.1.2
theorem wf_tp (W : WF d) : dn d 5 < dn d 1 := W.2.1.2.2.2.2.2.1
theorem g_free {x : Int32} {Q : Int32 → MI → MJ → Prop} (W : WF d) (C : RC I J b d) (r : Nat) (e : x = nI r) (hr : r < dn d 0) (h : Q (nI (mFree d r)) I J) : f_X1_freeTiles b x I J Q := by
  have h6 := wf_rows W
  have c := C.2.2.1 r hr
  unfold f_X1_freeTiles
  rw [cln (by omega) e, c.1, c.2.1]
  refine ⟨vin r 6 (by omega) (by decide) e, vin r 6 (by omega) (by decide) e, ?_⟩
  rw [show d (rA r) = nI (mTil d r) from wf_c W (okc_row (by omega) (k := 0) (by decide) (by decide)), show d (rA r + 1) = nI (mUse d r) from wf_c W (okc_row (by omega) (k := 1) (by decide) (by decide)), nsub (W.2.2.1 r (by omega)).2.1]
  exact h
theorem g_wordOf {x y : Int32} {Q : Int64 → MI → MJ → Prop} (W : WF d) (C : RC I J b d) (p k : Nat) (ex : x = nI p) (ey : y = nI k) (hp : p < dn d 1) (hk : k < mMany d p) (h : Q (lN (pkN d (wA p k + 1) (mLen d p k))) I J) : f_X1_wordOf b x y I J Q := by
  have h4 := wf_pls W
  have h8 := (W.2.2.2 p (by omega)).1
  have e : x * (8 : Int32) + y = nI (8 * p + k) := by rw [ex, ey, nlit 8, nmul, nI_add, Nat.mul_comm]
  unfold f_X1_wordOf
  rw [cln (by omega) e, (C.2.2.2.1 p hp).2.2 k hk]
  exact ⟨vin (8 * p + k) 32 (by omega) (by decide) e, h⟩
/-- why a word of n letters at a can't be laid on a row -/
def gObs (d : Nat → Int32) (a n r : Nat) : Nat := if n ≤ mFree d r then (if mWds d r = 0 then 0 else if smw d a n (mLat d r) (mLst d r) then 3 else if dn d 2 ≤ rh d a n (mLat d r) (mLst d r) then 0 else 4) else 2
theorem gObs_hin (d : Nat → Int32) (p k r : Nat) : gObs d (wA p k + 1) (mLen d p k) r = mHin d p k r := rfl
theorem g_obstacle {x : Int64} {y : Int32} {Q : Int32 → MI → MJ → Prop} (W : WF d) (C : RC I J b d) (a n r : Nat) (w : wrd d a n) (ex : x = lN (pkN d a n)) (ey : y = nI r) (hr : r < dn d 0) (h : Q (nI (gObs d a n r)) I J) : f_X1_obstacle b x y I J Q := by
  have h6 := wf_rows W
  have c := C.2.2.1 r hr
  have wr := W.2.2.1 r (by omega)
  have wl := wrd_last W (r := r) (by omega)
  have hR := rh_le d a n (mLat d r) (mLst d r)
  have hn := w.1
  have b2 : dn d 2 ≤ 4 := W.2.1.2.2.1.2
  have v6 : vp_in y 6 := vin r 6 (by omega) (by decide) ey
  unfold gObs at h
  refine k_len a n w ex (g_free W C r ey hr ?_)
  rw [cln (by omega) ey, c.2.2.1, c.2.2.2.2.1]
  refine q_le n (mFree d r) (by omega) (by show _ - _ < _; omega) rfl rfl (fun q => ⟨v6, ?_⟩) (fun q => ?_)
  · rw [if_pos q] at h
    refine q_eq (mWds d r) 0 (by omega) (by decide) (wf_c W (okc_row (by omega) (k := 2) (by decide) (by decide))) rfl (fun q2 => ?_) (fun q2 => ⟨v6, ?_⟩)
    · rw [if_pos q2] at h; exact h
    · rw [if_neg q2] at h
      have ks := k_same w wl
      by_cases q3 : smw d a n (mLat d r) (mLst d r) = true
      · rw [if_pos q3] at h
        exact q_t (by rw [ex]; exact ks.mpr q3) h
      · rw [if_neg q3] at h
        refine q_f (by rw [ex]; exact fun z => q3 (ks.mp z)) ⟨v6, k_rhymeOf C.2.1 a n (mLat d r) (mLst d r) w wl ex rfl ?_⟩
        refine q_le (dn d 2) (rh d a n (mLat d r) (mLst d r)) (by omega) (by omega) (C.1.2.2.1.trans (wf_c W (okc_lo (i := 2) (by decide)))) rfl (fun q4 => ?_) (fun q4 => ?_)
        · rw [if_pos q4] at h; exact h
        · rw [if_neg (by omega)] at h; exact h
  · rw [if_neg (by omega)] at h
    exact h
theorem g_obstacleNow {x y : Int32} {Q : Int32 → MI → MJ → Prop} (W : WF d) (C : RC I J b d) (k r : Nat) (ex : x = nI k) (ey : y = nI r) (hk : k < mMany d (dn d 5)) (hr : r < dn d 0) (h : Q (nI (mRef d k r)) I J) : f_X1_obstacleNow b x y I J Q := by
  have b6 : dn d 6 ≤ 1 := W.2.1.2.2.2.2.2.2.1
  unfold mRef at h
  refine q_eq (dn d 6) 0 (by omega) (by decide) (C.1.2.2.2.2.2.2.1.trans (wf_c W (okc_lo (i := 6) (by decide)))) rfl (fun q => ?_) (fun q => ?_)
  · rw [if_neg (by omega), ← gObs_hin] at h
    exact g_wordOf W C (dn d 5) k (C.1.2.2.2.2.2.1.trans (wf_c W (okc_lo (i := 5) (by decide)))) ex (wf_tp W) hk (g_obstacle W C _ _ r (wrd_hand W (wf_turn W) hk) rfl ey hr h)
  · rw [if_pos (by omega)] at h
    exact h
def gPts (d : Nat → Int32) (a n r : Nat) : Nat := n + dn d 3 * (if mWds d r = 0 then 0 else rh d a n (mLat d r) (mLst d r)) + (if n = mFree d r then dn d 4 * (mWds d r + 1) else 0)
theorem gPts_m (d : Nat → Int32) (p k r : Nat) : gPts d (wA p k + 1) (mLen d p k) r = mPts d p k r := rfl
/-- the last word of a row without words has no letters -/
theorem rh_none {d : Nat → Int32} (W : WF d) {a n r : Nat} (hr : r < 6) : rh d a n (mLat d r) (mLst d r) = if mWds d r = 0 then 0 else rh d a n (mLat d r) (mLst d r) := by
  split
  · next q =>
    have w := (W.2.2.1 r hr).2.2.2.2.2.2.1 q
    have := rh_le d a n (mLat d r) (mLst d r)
    omega
  · rfl
theorem g_pointsFor {x : Int64} {y : Int32} {Q : Int32 → MI → MJ → Prop} (W : WF d) (C : RC I J b d) (a n r : Nat) (w : wrd d a n) (ex : x = lN (pkN d a n)) (ey : y = nI r) (hr : r < dn d 0) (h : Q (nI (gPts d a n r)) I J) : f_X1_pointsFor b x y I J Q := by
  have h6 := wf_rows W
  have c := C.2.2.1 r hr
  have wr := W.2.2.1 r (by omega)
  have wl := wrd_last W (r := r) (by omega)
  have hn := w.1
  have v6 : vp_in y 6 := vin r 6 (by omega) (by decide) ey
  unfold gPts at h
  rw [← rh_none W (by omega)] at h
  refine k_len a n w ex ⟨v6, ?_⟩
  rw [cln (by omega) ey, c.2.2.2.2.1]
  refine k_rhymeOf C.2.1 a n (mLat d r) (mLst d r) w wl ex rfl (fun z ez => g_free W C r ey hr ?_)
  have ez2 : z = nI (n + dn d 3 * rh d a n (mLat d r) (mLst d r)) := by rw [ez, C.1.2.2.2.1, wf_c W (okc_lo (i := 3) (by decide)), nmul, nI_add]
  refine q_eq n (mFree d r) (by omega) (by show _ - _ < _; omega) rfl rfl (fun q => ⟨v6, fun z2 ez3 => ?_⟩) (fun q => ?_)
  · rw [if_pos q] at h
    have ez4 : z2 = nI (n + dn d 3 * rh d a n (mLat d r) (mLst d r) + dn d 4 * (mWds d r + 1)) := by rw [ez3, ez2, c.2.2.1, C.1.2.2.2.2.1, wf_c W (okc_lo (i := 4) (by decide)), wf_c W (okc_row (by omega) (k := 2) (by decide) (by decide)), nI_1, nmul, nI_add]
    rw [ez4]
    exact h
  · rw [if_neg q] at h
    rw [ez2]
    exact h
end GR
