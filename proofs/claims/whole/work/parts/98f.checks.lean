/-! ARGUMENTS AND THEIR CHECKS, on both sides -/
theorem i_toInt {x : Int32} (h : 0 ≤ x.toInt) : x = nI x.toInt.toNat := by
  have hb := Int32.toInt_lt x
  apply Int32.toInt_inj.mp
  rw [nI_toInt (by omega)]
  omega
/-- one of the first n numbers, or none of them -/
theorem i_or {x : Int32} {n : Nat} (hn : n < 2 ^ 31) : (∃ k, k < n ∧ x = nI k) ∨ ((∀ k, k < n → x ≠ nI k) ∧ (x.toInt < 0 ∨ (n : Int) ≤ x.toInt)) := by
  rcases Int.lt_or_le x.toInt 0 with h | h
  · refine Or.inr ⟨fun k hk e => ?_, Or.inl h⟩
    rw [e, nI_toInt (by omega)] at h
    omega
  · rcases Int.lt_or_le x.toInt n with g | g
    · exact Or.inl ⟨x.toInt.toNat, by omega, i_toInt h⟩
    · refine Or.inr ⟨fun k hk e => ?_, Or.inr g⟩
      rw [e, nI_toInt (by omega)] at g
      omega
/-- the class' check: below 0, or not below n -/
theorem c_chk {T F : Prop} {x y : Int32} {n : Nat} (hn : n < 2 ^ 31) (ey : y = nI n) (f : ∀ k, k < n → x = nI k → F) (g : (∀ k, k < n → x ≠ nI k) → T) : (x < 0 → T) ∧ (¬ x < 0 → ((x < y → F) ∧ (¬ x < y → T))) := by
  rcases i_or (x := x) hn with ⟨k, hk, e⟩ | ⟨h, c⟩
  · refine q_f ?_ (q_t ?_ (f k hk e))
    · rw [e, Int32.lt_iff_toInt_lt, nI_toInt (by omega)]
      show ¬ (k : Int) < 0
      omega
    · rw [e, ey]
      exact (nI_ltI (by omega) hn).mpr hk
  · refine ⟨fun _ => g h, fun w => q_f (fun q => ?_) (g h)⟩
    rw [Int32.lt_iff_toInt_lt] at w q
    rw [ey, nI_toInt hn] at q
    have z : (0 : Int32).toInt = 0 := by decide
    rw [z] at w
    omega
section MCK
variable {I : MI} {J : MJ}
theorem m_inr {x lo hi : Int32} {n : Nat} {Q : Int32 → MI → MJ → Prop} (hn : n < 2 ^ 31) (el : lo = 0) (eh : hi = nI n - 1) (h1 : ∀ k, k < n → x = nI k → Q 1 I J) (h0 : (∀ k, k < n → x ≠ nI k) → Q 0 I J) : f_X8_in x lo hi I J Q := by
  have z : (0 : Int32).toInt = 0 := by decide
  have eh2 : (nI n - 1).toInt = (n : Int) - 1 := by
    by_cases q : n = 0
    · subst q; decide
    · have : nI n - (1 : Int32) = nI (n - 1) := by rw [nlit 1]; exact nsub (by omega)
      rw [this, nI_toInt (by omega)]
      omega
  rcases i_or (x := x) hn with ⟨k, hk, e⟩ | ⟨h, c⟩
  · refine q_f ?_ (q_f ?_ (h1 k hk e))
    · rw [e, el, Int32.lt_iff_toInt_lt, nI_toInt (by omega), z]
      omega
    · rw [e, eh, Int32.lt_iff_toInt_lt, nI_toInt (by omega), eh2]
      omega
  · rcases c with c | c
    · refine q_t ?_ (h0 h)
      rw [el, Int32.lt_iff_toInt_lt, z]
      exact c
    · by_cases q : x < lo
      · exact q_t q (h0 h)
      · refine q_f q (q_t ?_ (h0 h))
        rw [eh, Int32.lt_iff_toInt_lt, eh2]
        omega
/-- the model fails once -/
def thr1 (I : MI) : MI := sI I 12 0 0 1
theorem m_noRow {x : Int32} {Q : Int32 → MI → MJ → Prop} (W : WF (I 12 2)) (h0 : I 12 0 0 = 0) (h : ∀ r, r < dn (I 12 2) 0 → x = nI r → Q 0 I J) (g : (∀ r, r < dn (I 12 2) 0 → x ≠ nI r) → Q 1 (sI I 12 0 0 1) J) : f_X8_noRow x I J Q := by
  have c0 : (0 : Int32).toNatClampNeg = 0 := by decide
  refine ⟨vin 0 1802 (by decide) (by decide) rfl, ?_⟩
  rw [c0]
  have b6 := wf_rows W
  refine m_inr (n := dn (I 12 2) 0) (by omega) rfl (by rw [← wf_c W (okc_lo (i := 0) (by decide))]) (fun r hr e => q_f (by decide) (m_good0 h0 ⟨bo0, h r hr e⟩)) (fun z => q_t rfl (m_bad1 (by decide) h0 (by decide) ⟨bo1, g z⟩))
theorem m_noPlayer {x : Int32} {Q : Int32 → MI → MJ → Prop} (W : WF (I 12 2)) (h0 : I 12 0 0 = 0) (h : ∀ p, p < dn (I 12 2) 1 → x = nI p → Q 0 I J) (g : (∀ p, p < dn (I 12 2) 1 → x ≠ nI p) → Q 1 (sI I 12 0 0 1) J) : f_X8_noPlayer x I J Q := by
  have c1 : (1 : Int32).toNatClampNeg = 1 := by decide
  refine ⟨vin 1 1802 (by decide) (by decide) rfl, ?_⟩
  rw [c1]
  have b4 := wf_pls W
  refine m_inr (n := dn (I 12 2) 1) (by omega) rfl (by rw [← wf_c W (okc_lo (i := 1) (by decide))]) (fun p hp e => q_f (by decide) (m_good0 h0 ⟨bo0, h p hp e⟩)) (fun z => q_t rfl (m_bad1 (by decide) h0 (by decide) ⟨bo1, g z⟩))
theorem m_noWord {x y : Int32} {Q : Int32 → MI → MJ → Prop} (W : WF (I 12 2)) (h0 : I 12 0 0 = 0) (h : ∀ p k, p < dn (I 12 2) 1 → x = nI p → k < mMany (I 12 2) p → y = nI k → Q 0 I J) (g : (∀ p, p < dn (I 12 2) 1 → x ≠ nI p) → Q 1 (sI I 12 0 0 1) J)
    (g2 : ∀ p, p < dn (I 12 2) 1 → x = nI p → (∀ k, k < mMany (I 12 2) p → y ≠ nI k) → Q 1 (sI I 12 0 0 1) J) : f_X8_noWord x y I J Q := by
  have b4 := wf_pls W
  refine m_noPlayer W h0 (fun p hp e => q_t rfl ?_) (fun z => q_f (by decide) (g z))
  have p4 : p < 4 := by omega
  have m8 := (W.2.2.2 p p4).1
  refine m_many W p e p4 ?_
  refine m_inr (n := mMany (I 12 2) p) (by omega) rfl rfl (fun k hk ek => q_f (by decide) (m_good0 h0 (q_t rfl (h p k hp e hk ek)))) (fun z => q_t rfl (m_bad1 (by decide) h0 (by decide) (q_f (by decide) (g2 p hp e z))))
theorem m_noPlay {x y : Int32} {Q : Int32 → MI → MJ → Prop} (W : WF (I 12 2)) (h0 : I 12 0 0 = 0) (h : ∀ k r, k < mMany (I 12 2) (dn (I 12 2) 5) → x = nI k → r < dn (I 12 2) 0 → y = nI r → Q 0 I J) (g : (∀ k, k < mMany (I 12 2) (dn (I 12 2) 5) → x ≠ nI k) → Q 1 (sI I 12 0 0 1) J)
    (g2 : ∀ k, k < mMany (I 12 2) (dn (I 12 2) 5) → x = nI k → (∀ r, r < dn (I 12 2) 0 → y ≠ nI r) → Q 1 (sI I 12 0 0 1) J) : f_X8_noPlay x y I J Q := by
  have c5 : (5 : Int32).toNatClampNeg = 5 := by decide
  have e5 : I 12 2 5 = nI (dn (I 12 2) 5) := wf_c W (okc_lo (i := 5) (by decide))
  have b4 := wf_pls W
  have t5 : dn (I 12 2) 5 < dn (I 12 2) 1 := W.2.1.2.2.2.2.2.1
  refine ⟨vin 5 1802 (by decide) (by decide) rfl, ?_⟩
  rw [c5]
  refine m_noWord W h0 (fun p k hp ep hk ek => ?_) (fun z => absurd e5 (z _ t5)) (fun p hp ep z => ?_)
  · have : p = dn (I 12 2) 5 := by
      rw [e5] at ep
      exact ((nI_eq (by omega) (by omega)).mp ep).symm
    subst this
    exact q_t rfl (m_noRow W h0 (fun r hr er => q_t rfl (h k r hk ek hr er)) (fun z => q_f (by decide) (g2 k hk ek z)))
  · have : p = dn (I 12 2) 5 := by
      rw [e5] at ep
      exact ((nI_eq (by omega) (by omega)).mp ep).symm
    subst this
    exact q_f (by decide) (g z)
end MCK
