/-! A SETUP TEXT: its bytes, tokens, numbers -/
def bt (tx : Nat → Nat) (n i : Nat) : Nat := if i < n then tx i else 256
def isD (c : Nat) : Bool := decide (48 ≤ c ∧ c ≤ 57)
def isL (c : Nat) : Bool := decide (97 ≤ c ∧ c ≤ 122)
def isS (c : Nat) : Bool := decide (c = 32)
/-- the first place from i on whose byte is not one of P -/
def fsF (P : Nat → Bool) (tx : Nat → Nat) (n : Nat) : Nat → Nat → Nat
  | 0, i => i
  | f + 1, i => if P (bt tx n i) then fsF P tx n f (i + 1) else i
def fst1 (P : Nat → Bool) (tx : Nat → Nat) (n i : Nat) : Nat := fsF P tx n (n - i) i
section FS
variable {P : Nat → Bool} {tx : Nat → Nat} {n : Nat}
theorem bt_end {i : Nat} (h : n ≤ i) : bt tx n i = 256 := if_neg (by omega)
theorem bt_in {i : Nat} (h : i < n) : bt tx n i = tx i := if_pos h
theorem fsF_ok (hP : P 256 = false) : ∀ (f i : Nat), i ≤ n → n - i ≤ f → (i ≤ fsF P tx n f i ∧ fsF P tx n f i ≤ n) ∧ P (bt tx n (fsF P tx n f i)) = false ∧ ∀ q, i ≤ q → q < fsF P tx n f i → P (bt tx n q) = true
  | 0, i, h1, h2 => by
    have : i = n := by omega
    subst this
    exact ⟨⟨Nat.le_refl _, Nat.le_refl _⟩, by show P (bt tx i i) = false; rw [bt_end (Nat.le_refl _)]; exact hP, fun q a b => absurd (Nat.lt_of_le_of_lt a b) (Nat.lt_irrefl _)⟩
  | f + 1, i, h1, h2 => by
    unfold fsF
    by_cases q : P (bt tx n i) = true
    · rw [if_pos q]
      have lt : i < n := by
        rcases Nat.lt_or_ge i n with z | z
        · exact z
        · rw [bt_end z, hP] at q; cases q
      have z := fsF_ok hP f (i + 1) (by omega) (by omega)
      refine ⟨⟨by omega, z.1.2⟩, z.2.1, fun r a b => ?_⟩
      by_cases y : r = i
      · rw [y]; exact q
      · exact z.2.2 r (by omega) b
    · rw [if_neg q]
      exact ⟨⟨Nat.le_refl _, h1⟩, Bool.eq_false_iff.mpr q, fun r a b => absurd (Nat.lt_of_le_of_lt a b) (Nat.lt_irrefl _)⟩
theorem fst_ok (hP : P 256 = false) {i : Nat} (h : i ≤ n) : (i ≤ fst1 P tx n i ∧ fst1 P tx n i ≤ n) ∧ P (bt tx n (fst1 P tx n i)) = false ∧ ∀ q, i ≤ q → q < fst1 P tx n i → P (bt tx n q) = true := fsF_ok hP _ _ h (Nat.le_refl _)
/-- it is known by what it is -/
theorem fst_is (hP : P 256 = false) {i k : Nat} (h : i ≤ n) (hk : i ≤ k) (h1 : P (bt tx n k) = false) (h2 : ∀ q, i ≤ q → q < k → P (bt tx n q) = true) : fst1 P tx n i = k := by
  have z := fst_ok (tx := tx) hP h
  rcases Nat.lt_trichotomy (fst1 P tx n i) k with y | y | y
  · have := h2 _ z.1.1 y
    rw [z.2.1] at this
    cases this
  · exact y
  · have := z.2.2 k hk y
    rw [h1] at this
    cases this
end FS
abbrev skp (tx : Nat → Nat) (n i : Nat) : Nat := fst1 isS tx n i
abbrev rend (tx : Nat → Nat) (n i : Nat) : Nat := fst1 isL tx n i
abbrev dend (tx : Nat → Nat) (n i : Nat) : Nat := fst1 isD tx n i
theorem isS_256 : isS 256 = false := by decide
theorem isL_256 : isL 256 = false := by decide
theorem isD_256 : isD 256 = false := by decide
theorem skp_ok {tx : Nat → Nat} {n i : Nat} (h : i ≤ n) : (i ≤ skp tx n i ∧ skp tx n i ≤ n) ∧ isS (bt tx n (skp tx n i)) = false ∧ ∀ q, i ≤ q → q < skp tx n i → isS (bt tx n q) = true := fst_ok isS_256 h
theorem rend_ok {tx : Nat → Nat} {n i : Nat} (h : i ≤ n) : (i ≤ rend tx n i ∧ rend tx n i ≤ n) ∧ isL (bt tx n (rend tx n i)) = false ∧ ∀ q, i ≤ q → q < rend tx n i → isL (bt tx n q) = true := fst_ok isL_256 h
theorem dend_ok {tx : Nat → Nat} {n i : Nat} (h : i ≤ n) : (i ≤ dend tx n i ∧ dend tx n i ≤ n) ∧ isD (bt tx n (dend tx n i)) = false ∧ ∀ q, i ≤ q → q < dend tx n i → isD (bt tx n q) = true := fst_ok isD_256 h
theorem isS_f {c : Nat} (h : isS c = false) : c ≠ 32 := by
  intro e
  rw [e] at h
  exact absurd h (by decide)
theorem isS_t {c : Nat} (h : isS c = true) : c = 32 := of_decide_eq_true h
theorem isL_t {c : Nat} (h : isL c = true) : 97 ≤ c ∧ c ≤ 122 := of_decide_eq_true h
theorem isD_t {c : Nat} (h : isD c = true) : 48 ≤ c ∧ c ≤ 57 := of_decide_eq_true h
theorem isL_S {c : Nat} (h : isL c = true) : isS c = false := by
  have := isL_t h
  unfold isS
  exact decide_eq_false (by omega)
theorem isD_S {c : Nat} (h : isD c = true) : isS c = false := by
  have := isD_t h
  unfold isS
  exact decide_eq_false (by omega)
theorem isD_L {c : Nat} (h : isD c = true) : isL c = false := by
  have := isD_t h
  unfold isL
  exact decide_eq_false (by omega)
theorem skp_id {tx : Nat → Nat} {n i : Nat} (h : i ≤ n) (hs : isS (bt tx n i) = false) : skp tx n i = i := fst_is isS_256 h (Nat.le_refl _) hs (fun q a b => absurd (Nat.lt_of_le_of_lt a b) (Nat.lt_irrefl _))
theorem skp_skp {tx : Nat → Nat} {n i : Nat} (h : i ≤ n) : skp tx n (skp tx n i) = skp tx n i := skp_id (skp_ok h).1.2 (skp_ok h).2.1
/-- the value of m digits at i -/
def dv (tx : Nat → Nat) (i : Nat) : Nat → Nat
  | 0 => 0
  | m + 1 => 10 * dv tx i m + (tx (i + m) - 48)
/-- an error: its code, its offset -/
abbrev ERR : Type := Int32 × Nat
def spSign (tx : Nat → Nat) (n s i : Nat) : Except ERR Nat := if bt tx n (skp tx n i) = s then .ok (skp tx n i + 1) else .error (-2, skp tx n i)
/-- a number: where it ends, its value -/
def spNum (tx : Nat → Nat) (n lo hi i : Nat) : Except ERR (Nat × Nat) :=
  if isD (bt tx n (skp tx n i)) = true then
    (if lo ≤ dv tx (skp tx n i) (dend tx n (skp tx n i) - skp tx n i) ∧ dv tx (skp tx n i) (dend tx n (skp tx n i) - skp tx n i) ≤ hi then .ok (dend tx n (skp tx n i), dv tx (skp tx n i) (dend tx n (skp tx n i) - skp tx n i)) else .error (-3, skp tx n i))
  else .error (-2, skp tx n i)
/-- a run of letters: where it ends (it begins behind the spaces) -/
def spRun (tx : Nat → Nat) (n i : Nat) : Except ERR Nat := if isL (bt tx n (skp tx n i)) = true then .ok (rend tx n (skp tx n i)) else .error (-2, skp tx n i)
/-- the words of the grammar -/
def wLen (w : Nat) : Nat := sxL.getD w 0
def wCh (w q : Nat) : Nat := ((sxB.getD w []).getD q 0).toNatClampNeg
def runIs (tx : Nat → Nat) (n w j k : Nat) : Bool := decide (k - j = wLen w) && decide (∀ q, q < wLen w → bt tx n (j + q) = wCh w q)
theorem wLet : ∀ w, w < 13 → ∀ q, q < wLen w → isL (wCh w q) = true := by decide +kernel
theorem wPos : ∀ w, w < 13 → 1 ≤ wLen w ∧ wLen w ≤ 7 := by decide +kernel
theorem wCode : ∀ w, w < 13 → ∀ q, q < wLen w → (sxB.getD w []).getD q 0 = nI (wCh w q) := by decide +kernel
