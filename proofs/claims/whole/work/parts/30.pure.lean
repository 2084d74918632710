/-! THE PURE LAYER: numbers -/
def dn (d : Nat → Int32) (i : Nat) : Nat := (d i).toNatClampNeg
theorem vin (n N : Nat) (h : n < N) (hN : N < 2 ^ 31) {x : Int32} (e : x = nI n) : vp_in x N := by rw [e]; exact vp_in_nI h hN
theorem cln {n : Nat} (h : n < 2 ^ 31) {x : Int32} (e : x = nI n) : x.toNatClampNeg = n := by rw [e]; exact nI_clamp h
theorem q_le {A B : Prop} {x y : Int32} (a b : Nat) (ha : a < 2 ^ 31) (hb : b < 2 ^ 31) (ex : x = nI a) (ey : y = nI b) (f : a ≤ b → A) (g : b < a → B) : (x ≤ y → A) ∧ (¬ x ≤ y → B) := by
  rw [ex, ey]
  exact ⟨fun h => f ((nI_leI ha hb).mp h), fun h => g (Nat.lt_of_not_le (fun q => h ((nI_leI ha hb).mpr q)))⟩
theorem q_lt {A B : Prop} {x y : Int32} (a b : Nat) (ha : a < 2 ^ 31) (hb : b < 2 ^ 31) (ex : x = nI a) (ey : y = nI b) (f : a < b → A) (g : b ≤ a → B) : (x < y → A) ∧ (¬ x < y → B) := by
  rw [ex, ey]
  exact ⟨fun h => f ((nI_ltI ha hb).mp h), fun h => g (Nat.le_of_not_lt (fun q => h ((nI_ltI ha hb).mpr q)))⟩
theorem q_eq {A B : Prop} {x y : Int32} (a b : Nat) (ha : a < 2 ^ 31) (hb : b < 2 ^ 31) (ex : x = nI a) (ey : y = nI b) (f : a = b → A) (g : ¬ a = b → B) : (x = y → A) ∧ (¬ x = y → B) := by
  rw [ex, ey]
  exact ⟨fun h => f ((nI_eq ha hb).mp h), fun h => g (fun q => h ((nI_eq ha hb).mpr q))⟩
theorem q_t {c A B : Prop} (h : c) (a : A) : (c → A) ∧ (¬ c → B) := ⟨fun _ => a, fun q => absurd h q⟩
theorem q_f {c A B : Prop} (h : ¬ c) (b : B) : (c → A) ∧ (¬ c → B) := ⟨fun q => absurd q h, fun _ => b⟩
theorem nsub {a b : Nat} (h : b ≤ a) : nI a - nI b = nI (a - b) := pk_sub h
theorem nmul (a b : Nat) : nI a * nI b = nI (a * b) := pk_mul a b
theorem nlit (n : Nat) : (OfNat.ofNat n : Int32) = nI n := rfl
theorem bo_I (b : Bool) : bo (if b then 1 else 0) := by cases b <;> first | exact bo0 | exact bo1
/-! THE MODEL'S DATA -/
/-- the cells that hold a number of their own: neither an owner nor points -/
def okc (i : Nat) : Prop := i < 1802 ∧ (∀ r, r < 6 → i ≠ 39 + 45 * r) ∧ ∀ p, p < 4 → i ≠ 306 + 74 * p
/-- rows: base, tiles, letters, words, last word's length, where it begins; players: base, words; a word's base and length -/
abbrev rA (r : Nat) : Nat := 36 + 45 * r
abbrev pA (p : Nat) : Nat := 306 + 74 * p
abbrev wA (p k : Nat) : Nat := 306 + 74 * p + 2 + 9 * k
abbrev mTil (d : Nat → Int32) (r : Nat) : Nat := dn d (rA r)
abbrev mUse (d : Nat → Int32) (r : Nat) : Nat := dn d (rA r + 1)
abbrev mWds (d : Nat → Int32) (r : Nat) : Nat := dn d (rA r + 2)
abbrev mLst (d : Nat → Int32) (r : Nat) : Nat := dn d (rA r + 4)
abbrev mMany (d : Nat → Int32) (p : Nat) : Nat := dn d (pA p + 1)
abbrev mLen (d : Nat → Int32) (p k : Nat) : Nat := dn d (wA p k)
abbrev mFree (d : Nat → Int32) (r : Nat) : Nat := mTil d r - mUse d r
abbrev mLat (d : Nat → Int32) (r : Nat) : Nat := rA r + 5 + mUse d r - mLst d r
/-- well-formed data -/
def WF (d : Nat → Int32) : Prop :=
  (∀ i, okc i → d i = nI (dn d i) ∧ dn d i < 1048576) ∧
  ((1 ≤ dn d 0 ∧ dn d 0 ≤ 6) ∧ (2 ≤ dn d 1 ∧ dn d 1 ≤ 4) ∧ (1 ≤ dn d 2 ∧ dn d 2 ≤ 4) ∧ dn d 3 ≤ 9 ∧ dn d 4 ≤ 99 ∧ dn d 5 < dn d 1 ∧ dn d 6 ≤ 1 ∧ dn d 7 ≤ dn d 1 ∧ dn d 8 ≤ 1 ∧ dn d 9 ≤ 1200 ∧ 1 ≤ mTil d 0) ∧
  (∀ r, r < 6 → mTil d r ≤ 40 ∧ mUse d r ≤ mTil d r ∧ mWds d r ≤ mUse d r ∧ mLst d r ≤ 8 ∧ mLst d r ≤ mUse d r ∧ (0 < mWds d r → 1 ≤ mLst d r) ∧ (mWds d r = 0 → mUse d r = 0 ∧ mLst d r = 0) ∧ (∀ t, t < mUse d r → dn d (rA r + 5 + t) < 26) ∧ (d (rA r + 3) = -1 ∨ ∃ p, p < dn d 1 ∧ d (rA r + 3) = nI p)) ∧
  (∀ p, p < 4 → mMany d p ≤ 8 ∧ ∀ k, k < mMany d p → (1 ≤ mLen d p k ∧ mLen d p k ≤ 8) ∧ ∀ j, j < mLen d p k → dn d (wA p k + 1 + j) < 26)
theorem okc_lo {i : Nat} (h : i < 36) : okc i := ⟨by omega, fun r _ => by omega, fun p _ => by omega⟩
theorem okc_row {r k : Nat} (hr : r < 6) (hk : k < 45) (h3 : k ≠ 3) : okc (rA r + k) := ⟨by show 36 + 45 * r + k < 1802; omega, fun q hq => by show 36 + 45 * r + k ≠ 39 + 45 * q; omega, fun p hp => by show 36 + 45 * r + k ≠ 306 + 74 * p; omega⟩
theorem okc_pl {p k : Nat} (hp : p < 4) (hk : k < 74) (h0 : k ≠ 0) : okc (pA p + k) := ⟨by show 306 + 74 * p + k < 1802; omega, fun q hq => by show 306 + 74 * p + k ≠ 39 + 45 * q; omega, fun q hq => by show 306 + 74 * p + k ≠ 306 + 74 * q; omega⟩
section MO
variable {I : MI} {J : MJ}
theorem wf_c {d : Nat → Int32} (h : WF d) {i : Nat} (hi : okc i) : d i = nI (dn d i) := (h.1 i hi).1
theorem wf_b {d : Nat → Int32} (h : WF d) {i : Nat} (hi : okc i) : dn d i < 1048576 := (h.1 i hi).2
theorem m_ofRow {x1 x2 : Int32} {Q : Int32 → MI → MJ → Prop} (r k : Nat) (e1 : x1 = nI r) (e2 : x2 = nI k) (hr : r < 6) (hk : k < 45) (h : Q (I 12 2 (rA r + k)) I J) : f_X8_ofRow x1 x2 I J Q := by
  have e : ((36 : Int32) + (45 : Int32) * x1) + x2 = nI (rA r + k) := by rw [e1, e2, nlit 36, nlit 45, nmul, nI_add, nI_add]
  refine ⟨vin _ _ (by show 36 + 45 * r + k < 1802; omega) (by decide) e, ?_⟩
  rw [cln (by show 36 + 45 * r + k < 2 ^ 31; omega) e]
  exact h
theorem m_ofPlayer {x1 x2 : Int32} {Q : Int32 → MI → MJ → Prop} (p k : Nat) (e1 : x1 = nI p) (e2 : x2 = nI k) (hp : p < 4) (hk : k < 74) (h : Q (I 12 2 (pA p + k)) I J) : f_X8_ofPlayer x1 x2 I J Q := by
  have e : ((306 : Int32) + (74 : Int32) * x1) + x2 = nI (pA p + k) := by rw [e1, e2, nlit 306, nlit 74, nmul, nI_add, nI_add]
  refine ⟨vin _ _ (by show 306 + 74 * p + k < 1802; omega) (by decide) e, ?_⟩
  rw [cln (by show 306 + 74 * p + k < 2 ^ 31; omega) e]
  exact h
theorem m_wordAt {x1 x2 : Int32} {Q : Int32 → MI → MJ → Prop} (p k : Nat) (e1 : x1 = nI p) (e2 : x2 = nI k) (h : Q (nI (wA p k)) I J) : f_X8_wordAt x1 x2 I J Q := by
  have e : (((306 : Int32) + (74 : Int32) * x1) + (2 : Int32)) + (9 : Int32) * x2 = nI (wA p k) := by rw [e1, e2, nlit 306, nlit 74, nlit 2, nlit 9, nmul, nmul, nI_add, nI_add, nI_add]
  show Q _ I J
  rw [e]
  exact h
theorem m_lengthOf {x1 x2 : Int32} {Q : Int32 → MI → MJ → Prop} (p k : Nat) (e1 : x1 = nI p) (e2 : x2 = nI k) (hp : p < 4) (hk : k < 8) (h : Q (I 12 2 (wA p k)) I J) : f_X8_lengthOf x1 x2 I J Q := by
  refine m_wordAt p k e1 e2 ⟨vin _ _ (by show 306 + 74 * p + 2 + 9 * k < 1802; omega) (by decide) rfl, ?_⟩
  rw [cln (by show 306 + 74 * p + 2 + 9 * k < 2 ^ 31; omega) rfl]
  exact h
theorem m_free {x1 : Int32} {Q : Int32 → MI → MJ → Prop} (W : WF (I 12 2)) (r : Nat) (e1 : x1 = nI r) (hr : r < 6) (h : Q (nI (mFree (I 12 2) r)) I J) : f_X8_free x1 I J Q := by
  refine m_ofRow r 0 e1 rfl hr (by decide) (m_ofRow r 1 e1 rfl hr (by decide) ?_)
  rw [wf_c W (okc_row hr (k := 0) (by decide) (by decide)), wf_c W (okc_row hr (k := 1) (by decide) (by decide)), nsub (show dn (I 12 2) (rA r + 1) ≤ dn (I 12 2) (rA r + 0) from (W.2.2.1 r hr).2.1)]
  exact h
/-- two letters are alike -/
def alk (d : Nat → Int32) (x y : Nat) : Bool := decide (x = y) || (decide (dn d (10 + x) ≠ 0) && decide (dn d (10 + x) = dn d (10 + y)))
theorem m_areAlike {x1 x2 : Int32} {Q : Int32 → MI → MJ → Prop} (W : WF (I 12 2)) (a c : Nat) (e1 : x1 = nI a) (e2 : x2 = nI c) (ha : a < 26) (hc : c < 26) (h : Q (if alk (I 12 2) a c then 1 else 0) I J) : f_X8_areAlike x1 x2 I J Q := by
  have ea : (10 : Int32) + x1 = nI (10 + a) := by rw [e1, nlit 10, nI_add]
  have ec : (10 : Int32) + x2 = nI (10 + c) := by rw [e2, nlit 10, nI_add]
  have va : vp_in ((10 : Int32) + x1) 1802 := vin _ _ (by omega) (by decide) ea
  have vc : vp_in ((10 : Int32) + x2) 1802 := vin _ _ (by omega) (by decide) ec
  have wa := wf_c W (okc_lo (i := 10 + a) (by omega))
  have wc := wf_c W (okc_lo (i := 10 + c) (by omega))
  have ba := wf_b W (okc_lo (i := 10 + a) (by omega))
  have bc := wf_b W (okc_lo (i := 10 + c) (by omega))
  unfold f_X8_areAlike
  rw [cln (by omega) ea, cln (by omega) ec]
  refine q_eq a c (by omega) (by omega) e1 e2 (fun q => ?_) (fun q => ⟨va, q_eq (dn (I 12 2) (10 + a)) 0 (by omega) (by decide) wa rfl (fun q2 => ?_) (fun q2 => ⟨va, vc, q_eq (dn (I 12 2) (10 + a)) (dn (I 12 2) (10 + c)) (by omega) (by omega) wa wc (fun q3 => ?_) (fun q3 => ?_)⟩)⟩)
  · have : alk (I 12 2) a c = true := by simp [alk, q]
    rw [this] at h; exact h
  · have : alk (I 12 2) a c = false := by simp [alk, q, q2]
    rw [this] at h; exact h
  · have : alk (I 12 2) a c = true := by simp [alk, q2, q3]; exact Or.inr (by rw [← q3]; exact q2)
    rw [this] at h; exact h
  · have : alk (I 12 2) a c = false := by simp [alk, q, q3]
    rw [this] at h; exact h
/-- the rhyme of the words of la letters at a and of lb at b, from k on -/
def rhF (d : Nat → Int32) (a la b lb : Nat) : Nat → Nat → Nat
  | 0, k => k
  | f + 1, k => if alk d (dn d (a + la - 1 - k)) (dn d (b + lb - 1 - k)) then rhF d a la b lb f (k + 1) else k
def rh (d : Nat → Int32) (a la b lb : Nat) : Nat := rhF d a la b lb (min la lb) 0
theorem rhF_le (d : Nat → Int32) (a la b lb : Nat) : ∀ f k, rhF d a la b lb f k ≤ k + f
  | 0, k => Nat.le_refl k
  | f + 1, k => by
    unfold rhF
    split
    · exact Nat.le_trans (rhF_le d a la b lb f (k + 1)) (by omega)
    · omega
theorem rh_le (d : Nat → Int32) (a la b lb : Nat) : rh d a la b lb ≤ min la lb := by
  have := rhF_le d a la b lb (min la lb) 0
  unfold rh
  omega
/-- a word of n letters at a -/
def wrd (d : Nat → Int32) (a n : Nat) : Prop := n ≤ 8 ∧ a + n ≤ 602 ∧ ∀ j, j < n → d (a + j) = nI (dn d (a + j)) ∧ dn d (a + j) < 26
theorem m_min {x y : Int32} {Q : Int32 → MI → MJ → Prop} (a b : Nat) (ha : a < 2 ^ 31) (hb : b < 2 ^ 31) (ex : x = nI a) (ey : y = nI b) (h : Q (nI (min a b)) I J) : f_X8_min x y I J Q := by
  unfold f_X8_min
  refine q_le b a hb ha ey ex (fun q => ?_) (fun q => ?_)
  · rw [ey, ← Nat.min_eq_right q]; exact h
  · rw [ex, ← Nat.min_eq_left (Nat.le_of_lt q)]; exact h
theorem m_rhymeL {x1 x2 x3 x4 : Int32} {K : Int32 → MI → MJ → Prop} (W : WF (I 12 2)) (a la b lb : Nat) (e1 : x1 = nI a) (e2 : x2 = nI la) (e3 : x3 = nI b) (e4 : x4 = nI lb) (wa : wrd (I 12 2) a la) (wb : wrd (I 12 2) b lb) :
    ∀ (f k : Nat) (x : Int32), k + f = min la lb → x = nI k → K (nI (rhF (I 12 2) a la b lb f k)) I J → f_X8_rhymeOf_L3 x1 x2 x3 x4 K (f + 1) x I J := by
  obtain ⟨hla, hab, hca⟩ := wa
  obtain ⟨hlb, hbb, hcb⟩ := wb
  intro f
  induction f with
  | zero =>
    intro k x hk ex h
    show f_X8_rhymeOf_B3 x1 x2 x3 x4 K _ x I J
    refine m_min la lb (by omega) (by omega) e2 e4 (q_t ?_ ?_)
    · rw [ex]; exact nI_le (by omega) (by omega)
    · rw [ex]; exact h
  | succ f ih =>
    intro k x hk ex h
    show f_X8_rhymeOf_B3 x1 x2 x3 x4 K (f_X8_rhymeOf_L3 x1 x2 x3 x4 K (f + 1)) x I J
    have ea : ((x1 + x2) - (1 : Int32)) - x = nI (a + la - 1 - k) := by rw [e1, e2, ex, nlit 1, nI_add, nsub (by omega), nsub (by omega)]
    have eb : ((x3 + x4) - (1 : Int32)) - x = nI (b + lb - 1 - k) := by rw [e3, e4, ex, nlit 1, nI_add, nsub (by omega), nsub (by omega)]
    have ca := hca (la - 1 - k) (by omega)
    have cb := hcb (lb - 1 - k) (by omega)
    rw [show a + (la - 1 - k) = a + la - 1 - k by omega] at ca
    rw [show b + (lb - 1 - k) = b + lb - 1 - k by omega] at cb
    refine m_min la lb (by omega) (by omega) e2 e4 (q_f ?_ ⟨vin _ _ (by omega) (by decide) ea, vin _ _ (by omega) (by decide) eb, ?_⟩)
    · rw [ex]; exact nI_ge (by omega) (by omega)
    · rw [cln (by omega) ea, cln (by omega) eb]
      refine m_areAlike W _ _ ca.1 cb.1 ca.2 cb.2 ?_
      unfold rhF at h
      by_cases hc : alk (I 12 2) (dn (I 12 2) (a + la - 1 - k)) (dn (I 12 2) (b + lb - 1 - k)) = true
      · rw [if_pos hc] at h
        rw [if_pos hc]
        exact q_f (by decide) (fun z ez => ih (k + 1) z (by omega) (by rw [ez, ex]; exact nI_1 k) h)
      · rw [if_neg hc] at h
        rw [if_neg hc, ex]
        exact q_t rfl h
theorem m_rhymeOf {x1 x2 x3 x4 : Int32} {Q : Int32 → MI → MJ → Prop} (W : WF (I 12 2)) (a la b lb : Nat) (e1 : x1 = nI a) (e2 : x2 = nI la) (e3 : x3 = nI b) (e4 : x4 = nI lb) (wa : wrd (I 12 2) a la) (wb : wrd (I 12 2) b lb) (h : Q (nI (rh (I 12 2) a la b lb)) I J) : f_X8_rhymeOf x1 x2 x3 x4 I J Q :=
  ⟨min la lb + 1, m_rhymeL W a la b lb e1 e2 e3 e4 wa wb (min la lb) 0 0 (Nat.zero_add _) rfl h⟩
end MO
