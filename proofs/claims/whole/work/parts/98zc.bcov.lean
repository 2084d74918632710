/-! COVERED: both sides divide the same two numbers -/
def sU (d : Nat → Int32) : Nat → Nat
  | 0 => 0
  | r + 1 => sU d r + mUse d r
def sT (d : Nat → Int32) : Nat → Nat
  | 0 => 0
  | r + 1 => sT d r + mTil d r
/-- no NaN, and equal to itself as a double -/
def cvOk (v : UInt32) : Prop := vf_n64 (FP.f2d v) ∧ FP.dcmp (FP.f2d v) (FP.f2d v) = some .eq
def cvB (u t : Nat) : Bool := decide (FP.fdiv (FP.i2f (nI u)) (FP.i2f (nI t)) &&& 0x7fffffff ≤ 0x7f800000) && decide (FP.f2d (FP.fdiv (FP.i2f (nI u)) (FP.i2f (nI t))) &&& 0x7fffffffffffffff ≤ 0x7ff0000000000000) && decide (FP.dcmp (FP.f2d (FP.fdiv (FP.i2f (nI u)) (FP.i2f (nI t)))) (FP.f2d (FP.fdiv (FP.i2f (nI u)) (FP.i2f (nI t)))) = some .eq)
def cvR (a n : Nat) : Bool := (List.range n).all (fun t => (List.range (a + t + 2)).all (fun u => cvB u (a + t + 1)))
set_option maxRecDepth 100000 in
theorem cv_0 : cvR 0 60 = true := by decide +kernel
set_option maxRecDepth 100000 in
theorem cv_1 : cvR 60 60 = true := by decide +kernel
set_option maxRecDepth 100000 in
theorem cv_2 : cvR 120 60 = true := by decide +kernel
set_option maxRecDepth 100000 in
theorem cv_3 : cvR 180 60 = true := by decide +kernel
theorem cv_of {a n u t : Nat} (h : cvR a n = true) (h1 : a < t) (h2 : t ≤ a + n) (hu : u ≤ t) : cvB u t = true := by
  have e : a + (t - a - 1) + 1 = t := by omega
  have := List.all_eq_true.mp (List.all_eq_true.mp h (t - a - 1) (List.mem_range.mpr (by omega))) u (List.mem_range.mpr (by omega))
  rw [e] at this
  exact this
theorem cv_all {u t : Nat} (h1 : 1 ≤ t) (h2 : t ≤ 240) (hu : u ≤ t) : vf_n32 (FP.fdiv (FP.i2f (nI u)) (FP.i2f (nI t))) ∧ cvOk (FP.fdiv (FP.i2f (nI u)) (FP.i2f (nI t))) := by
  have h : cvB u t = true := by
    rcases (show t ≤ 60 ∨ 60 < t ∧ t ≤ 120 ∨ 120 < t ∧ t ≤ 180 ∨ 180 < t by omega) with q | q | q | q
    · exact cv_of cv_0 (by omega) (by omega) hu
    · exact cv_of cv_1 (by omega) (by omega) hu
    · exact cv_of cv_2 (by omega) (by omega) hu
    · exact cv_of cv_3 (by omega) (by omega) hu
  have h2 := Bool.and_eq_true_iff.mp h
  have h3 := Bool.and_eq_true_iff.mp h2.1
  exact ⟨of_decide_eq_true h3.1, of_decide_eq_true h3.2, of_decide_eq_true h2.2⟩
section CV
variable {I : MI} {J : MJ} {d : Nat → Int32}
theorem k_covL {K : Int32 → Int32 → MI → MJ → Prop} (W : WF d) (C : RC I J 0 d) (h : K (nI (sU d (dn d 0))) (nI (sT d (dn d 0))) I J) : ∀ (f r : Nat) (x1 x2 x3 : Int32), r + f = dn d 0 → x1 = nI (sU d r) → x2 = nI (sT d r) → x3 = nI r → f_X7_covered_L6 K (f + 1) x1 x2 x3 I J := by
  have b6 := wf_rows W
  intro f
  induction f with
  | zero =>
    intro r x1 x2 x3 hr e1 e2 e3
    have er : r = dn d 0 := by omega
    show f_X7_covered_B6 K _ x1 x2 x3 I J
    refine q_le (dn d 0) r (by omega) (by omega) (e_rows W C) e3 (fun _ => ?_) (fun q => absurd q (by omega))
    rw [e1, e2, er]
    exact h
  | succ f ih =>
    intro r x1 x2 x3 hr e1 e2 e3
    have r6 : r < 6 := by omega
    have c := C.2.2.1 r (by omega)
    have eu : I 0 8 x3.toNatClampNeg = nI (mUse d r) := by rw [cln (by omega) e3]; exact c.2.1.trans (wf_c W (okc_row r6 (k := 1) (by decide) (by decide)))
    have et : I 0 3 x3.toNatClampNeg = nI (mTil d r) := by rw [cln (by omega) e3]; exact c.1.trans (wf_c W (okc_row r6 (k := 0) (by decide) (by decide)))
    show f_X7_covered_B6 K _ x1 x2 x3 I J
    refine q_le (dn d 0) r (by omega) (by omega) (e_rows W C) e3 (fun q => absurd q (by omega)) (fun _ => ⟨vin r 6 r6 (by decide) e3, fun y1 f1 => ⟨vin r 6 r6 (by decide) e3, fun y2 f2 y3 f3 => ih (r + 1) y1 y2 y3 (by omega) ?_ ?_ ?_⟩⟩)
    · rw [f1, e1, eu, nI_add]; rfl
    · rw [f2, e2, et, nI_add]; rfl
    · rw [f3, e3, nlit 1, nI_add]
theorem m_covL {K : Int32 → Int32 → MI → MJ → Prop} (W : WF (I 12 2)) (h : K (nI (sU (I 12 2) (dn (I 12 2) 0))) (nI (sT (I 12 2) (dn (I 12 2) 0))) I J) : ∀ (f r : Nat) (x1 x2 x3 : Int32), r + f = dn (I 12 2) 0 → x1 = nI (sU (I 12 2) r) → x2 = nI (sT (I 12 2) r) → x3 = nI r → f_X8_covered_L11 K (f + 1) x1 x2 x3 I J := by
  have b6 := wf_rows W
  intro f
  induction f with
  | zero =>
    intro r x1 x2 x3 hr e1 e2 e3
    have er : r = dn (I 12 2) 0 := by omega
    show f_X8_covered_B11 K _ x1 x2 x3 I J
    refine ⟨vin 0 1802 (by decide) (by decide) rfl, q_le (dn (I 12 2) 0) r (by omega) (by omega) (c0 W) e3 (fun _ => ?_) (fun q => absurd q (by omega))⟩
    rw [e1, e2, er]
    exact h
  | succ f ih =>
    intro r x1 x2 x3 hr e1 e2 e3
    have r6 : r < 6 := by omega
    show f_X8_covered_B11 K _ x1 x2 x3 I J
    refine ⟨vin 0 1802 (by decide) (by decide) rfl, q_le (dn (I 12 2) 0) r (by omega) (by omega) (c0 W) e3 (fun q => absurd q (by omega)) (fun _ => m_ofRow r 1 e3 rfl r6 (by decide) (fun y1 f1 => m_ofRow r 0 e3 rfl r6 (by decide) (fun y2 f2 y3 f3 => ih (r + 1) y1 y2 y3 (by omega) ?_ ?_ ?_)))⟩
    · rw [f1, e1, wf_c W (okc_row r6 (k := 1) (by decide) (by decide)), nI_add]; rfl
    · rw [f2, e2, wf_c W (okc_row r6 (k := 0) (by decide) (by decide)), nI_add]; rfl
    · rw [f3, e3, nlit 1, nI_add]
theorem sT_ge (W : WF d) : ∀ r, 1 ≤ r → r ≤ 6 → 1 ≤ sT d r ∧ sU d r ≤ sT d r ∧ sT d r ≤ 40 * r := by
  intro r
  induction r with
  | zero => intro h; exact absurd h (by decide)
  | succ r ih =>
    intro _ h
    have w := W.2.2.1 r (by omega)
    show 1 ≤ sT d r + mTil d r ∧ sU d r + mUse d r ≤ sT d r + mTil d r ∧ sT d r + mTil d r ≤ 40 * (r + 1)
    by_cases z : r = 0
    · subst z
      have t1 : 1 ≤ mTil d 0 := W.2.1.2.2.2.2.2.2.2.2.2.2
      have a : sT d 0 = 0 := rfl
      have b : sU d 0 = 0 := rfl
      omega
    · have i := ih (by omega) (by omega)
      omega
theorem b_covered (V : INV I J) : f_X7_covered I J (fun v I1 J1 => cvOk v ∧ f_X8_covered I1 J1 (fun w I2 J2 => v = w ∧ INV I2 J2)) := by
  obtain ⟨⟨W, Lv, C⟩, -⟩ := id V
  have b6 := wf_rows W
  have b1 : 1 ≤ dn (I 12 2) 0 := W.2.1.1.1
  have g := sT_ge W (dn (I 12 2) 0) b1 b6
  have cv := cv_all (u := sU (I 12 2) (dn (I 12 2) 0)) (t := sT (I 12 2) (dn (I 12 2) 0)) g.1 (by omega) g.2.1
  refine ⟨dn (I 12 2) 0 + 1, k_covL W C ⟨fun z => absurd ((nI_eq (a := sT (I 12 2) (dn (I 12 2) 0)) (b := 0) (by omega) (by decide)).mp z) (by omega), fun _ => ⟨cv.1, cv.2, ?_⟩⟩ (dn (I 12 2) 0) 0 _ _ _ (Nat.zero_add _) rfl rfl rfl⟩
  intro I1 e1
  have e12 : I1 12 2 = I 12 2 := by rw [e1, sI_ro _ _ _ _ _ (by decide)]
  refine ⟨dn (I 12 2) 0 + 1, m_covL (by rw [e12]; exact W) ?_ (dn (I 12 2) 0) 0 _ _ _ (by rw [e12]; exact Nat.zero_add _) rfl rfl rfl⟩
  rw [e12]
  exact ⟨cv.1, rfl, by rw [e1]; exact INV_m V tI_m⟩
end CV
