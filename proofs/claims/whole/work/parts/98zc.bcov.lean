/-! COVERED: both sides divide the same two numbers -/
def sU (d : Nat → Int32) : Nat → Nat
  | 0 => 0
  | r + 1 => sU d r + mUse d r
def sT (d : Nat → Int32) : Nat → Nat
  | 0 => 0
  | r + 1 => sT d r + mTil d r
/-- no NaN, and equal to itself as a double -/
def cvOk (v : UInt32) : Prop := vf_n64 (FP.f2d v) ∧ FP.dcmp (FP.f2d v) (FP.f2d v) = some .eq
/-- a datum that is no NaN, not below zero, and fits -/
def okD (f : FP.Core.Fmt) : FP.Core.Datum → Prop
  | .nan => False
  | .inf s => s = false
  | .fin s c q => s = false ∧ c < 2 ^ f.p ∧ q ≤ f.qmax
theorem okD_settle {f : FP.Core.Fmt} (h : f.tails < 2 ^ f.p) (c : Nat) (q : Int) : okD f (FP.Core.settle f false c q) := by
  unfold FP.Core.settle FP.Core.bound
  split
  · next hc =>
    split
    · next hq => exact ⟨rfl, hc, hq⟩
    · exact rfl
  · split
    · next hq => exact ⟨rfl, h, hq⟩
    · exact rfl
theorem okD_ratio {f : FP.Core.Fmt} (h : f.tails < 2 ^ f.p) (h0 : 0 < 2 ^ f.p) (hq : f.qmin ≤ f.qmax) (num den : Nat) (e : Int) : okD f (FP.Core.roundRatio f false num den e) := by
  unfold FP.Core.roundRatio
  split
  · exact ⟨rfl, h0, hq⟩
  · exact okD_settle h _ _
theorem ok32 (num den : Nat) (e : Int) : okD FP.Core.b32 (FP.Core.roundRatio FP.Core.b32 false num den e) := okD_ratio (by decide) (by decide) (by decide) _ _ _
theorem ok64 (num den : Nat) (e : Int) : okD FP.Core.b64 (FP.Core.roundRatio FP.Core.b64 false num den e) := okD_ratio (by decide) (by decide) (by decide) _ _ _
theorem enc32 : ∀ {d : FP.Core.Datum}, okD FP.Core.b32 d → FP.Core.encode FP.Core.b32 d ≤ 2139095040
  | .nan, h => h.elim
  | .inf s, h => by
    have h : s = false := h
    subst h
    decide +kernel
  | .fin s c q, h => by
    obtain ⟨rfl, hc, hq⟩ := h
    have hc : c < 16777216 := hc
    have hq : q ≤ 104 := hq
    show (if c < 8388608 then (0 * 256 + 0) * 8388608 + c else (0 * 256 + ((q - (-149)).toNat + 1)) * 8388608 + (c - 8388608)) ≤ 2139095040
    split <;> omega
theorem enc64 : ∀ {d : FP.Core.Datum}, okD FP.Core.b64 d → FP.Core.encode FP.Core.b64 d ≤ 9218868437227405312
  | .nan, h => h.elim
  | .inf s, h => by
    have h : s = false := h
    subst h
    decide +kernel
  | .fin s c q, h => by
    obtain ⟨rfl, hc, hq⟩ := h
    have hc : c < 9007199254740992 := hc
    have hq : q ≤ 971 := hq
    show (if c < 4503599627370496 then (0 * 2048 + 0) * 4503599627370496 + c else (0 * 2048 + ((q - (-1074)).toNat + 1)) * 4503599627370496 + (c - 4503599627370496)) ≤ 9218868437227405312
    split <;> omega
theorem dec32 {n : Nat} (h : n ≤ 2139095040) : FP.Core.decode FP.Core.b32 n = .inf false ∨ ∃ c q, FP.Core.decode FP.Core.b32 n = .fin false c q := by
  have hS : FP.Core.fieldS FP.Core.b32 n = false := by
    show (n / 8388608 / 256 % 2 == 1) = false
    rw [show n / 8388608 / 256 = 0 by omega]
    rfl
  unfold FP.Core.decode
  split
  · next e =>
    have e : n / 8388608 % 256 = 255 := e
    have t : FP.Core.fieldT FP.Core.b32 n = 0 := by
      show n % 8388608 = 0
      omega
    rw [if_pos t, hS]
    exact Or.inl rfl
  · split
    · rw [hS]; exact Or.inr ⟨_, _, rfl⟩
    · rw [hS]; exact Or.inr ⟨_, _, rfl⟩
theorem dec64 {n : Nat} (h : n ≤ 9218868437227405312) : FP.Core.decode FP.Core.b64 n = .inf false ∨ ∃ c q, FP.Core.decode FP.Core.b64 n = .fin false c q := by
  have hS : FP.Core.fieldS FP.Core.b64 n = false := by
    show (n / 4503599627370496 / 2048 % 2 == 1) = false
    rw [show n / 4503599627370496 / 2048 = 0 by omega]
    rfl
  unfold FP.Core.decode
  split
  · next e =>
    have e : n / 4503599627370496 % 2048 = 2047 := e
    have t : FP.Core.fieldT FP.Core.b64 n = 0 := by
      show n % 4503599627370496 = 0
      omega
    rw [if_pos t, hS]
    exact Or.inl rfl
  · split
    · rw [hS]; exact Or.inr ⟨_, _, rfl⟩
    · rw [hS]; exact Or.inr ⟨_, _, rfl⟩
theorem toN32 {n : Nat} (h : n ≤ 2139095040) : (UInt32.ofNat n).toNat = n := by
  have e : (UInt32.ofNat n).toNat = n % 2 ^ 32 := rfl
  rw [e]
  exact Nat.mod_eq_of_lt (by omega)
theorem toN64 {n : Nat} (h : n ≤ 9218868437227405312) : (UInt64.ofNat n).toNat = n := by
  have e : (UInt64.ofNat n).toNat = n % 2 ^ 64 := rfl
  rw [e]
  exact Nat.mod_eq_of_lt (by omega)
theorem n32_of {n : Nat} (h : n ≤ 2139095040) : vf_n32 (UInt32.ofNat n) := by
  unfold vf_n32
  rw [UInt32.le_iff_toNat_le, UInt32.toNat_and, toN32 h]
  exact Nat.le_trans Nat.and_le_left h
theorem n64_of {n : Nat} (h : n ≤ 9218868437227405312) : vf_n64 (UInt64.ofNat n) := by
  unfold vf_n64
  rw [UInt64.le_iff_toNat_le, UInt64.toNat_and, toN64 h]
  exact Nat.le_trans Nat.and_le_left h
theorem ord_inf : FP.Core.order (.inf false) (.inf false) = some .eq := by decide +kernel
theorem ord_fin (c : Nat) (q : Int) : FP.Core.order (.fin false c q) (.fin false c q) = some .eq := by
  simp [FP.Core.order, compare, compareOfLessAndEq]
theorem cvOk_of {n : Nat} (h : n ≤ 2139095040) : cvOk (UInt32.ofNat n) := by
  have key : ∃ k, k ≤ 9218868437227405312 ∧ FP.f2d (UInt32.ofNat n) = UInt64.ofNat k := by
    have nn : FP.Core.decode FP.Core.b32 (UInt32.ofNat n).toNat ≠ .nan := by
      rw [toN32 h]
      rcases dec32 h with e | ⟨c, q, e⟩
      · rw [e]; intro z; cases z
      · rw [e]; intro z; cases z
    have f : FP.f2d (UInt32.ofNat n) = FP.Core.f2d (UInt32.ofNat n) := if_neg (by
      show ¬ decide (FP.Core.decode FP.Core.b32 (UInt32.ofNat n).toNat = .nan) = true
      rw [decide_eq_true_eq]
      exact nn)
    refine ⟨FP.Core.encode FP.Core.b64 (FP.Core.round FP.Core.b64 (FP.Core.decode FP.Core.b32 n)), enc64 ?_, ?_⟩
    · rcases dec32 h with e | ⟨c, q, e⟩
      · rw [e]; exact rfl
      · rw [e]; exact ok64 c 1 q
    · rw [f]
      show UInt64.ofNat (FP.Core.encode FP.Core.b64 (FP.Core.round FP.Core.b64 (FP.Core.decode FP.Core.b32 (UInt32.ofNat n).toNat))) = _
      rw [toN32 h]
  obtain ⟨k, hk, e⟩ := key
  unfold cvOk
  rw [e]
  refine ⟨n64_of hk, ?_⟩
  show FP.Core.order (FP.Core.decode FP.Core.b64 (UInt64.ofNat k).toNat) (FP.Core.decode FP.Core.b64 (UInt64.ofNat k).toNat) = some .eq
  rw [toN64 hk]
  rcases dec64 hk with z | ⟨c, q, z⟩
  · rw [z]; exact ord_inf
  · rw [z]; exact ord_fin c q
/-- a small whole number as a float -/
def i2B (u : Nat) : Bool := match FP.Core.decode FP.Core.b32 (FP.i2f (nI u)).toNat with
  | .fin s c _ => !s && (decide (u = 0) || decide (c ≠ 0))
  | _ => false
set_option maxRecDepth 100000 in
theorem i2_all : (List.range 241).all i2B = true := by decide +kernel
theorem i2_of {u : Nat} (h : u ≤ 240) : ∃ c q, FP.Core.decode FP.Core.b32 (FP.i2f (nI u)).toNat = .fin false c q ∧ (u ≠ 0 → c ≠ 0) := by
  have b := List.all_eq_true.mp i2_all u (List.mem_range.mpr (by omega))
  unfold i2B at b
  split at b
  · next s c q e =>
    have b2 := Bool.and_eq_true_iff.mp b
    have hs : s = false := by cases s <;> simp_all
    subst hs
    refine ⟨c, q, e, fun hu => ?_⟩
    rcases Bool.or_eq_true_iff.mp b2.2 with z | z
    · exact absurd (of_decide_eq_true z) hu
    · exact of_decide_eq_true z
  · cases b
theorem cv_all {u t : Nat} (h1 : 1 ≤ t) (h2 : t ≤ 240) (hu : u ≤ t) : vf_n32 (FP.fdiv (FP.i2f (nI u)) (FP.i2f (nI t))) ∧ cvOk (FP.fdiv (FP.i2f (nI u)) (FP.i2f (nI t))) := by
  obtain ⟨c, q, ec, -⟩ := i2_of (u := u) (by omega)
  obtain ⟨d, r, ed, hd⟩ := i2_of (u := t) h2
  have e : FP.fdiv (FP.i2f (nI u)) (FP.i2f (nI t)) = UInt32.ofNat (FP.Core.encode FP.Core.b32 (FP.Core.roundRatio FP.Core.b32 false c d (q - r))) := by
    show UInt32.ofNat (FP.Core.encode FP.Core.b32 (FP.Core.quotient FP.Core.b32 (FP.Core.decode FP.Core.b32 (FP.i2f (nI u)).toNat) (FP.Core.decode FP.Core.b32 (FP.i2f (nI t)).toNat))) = _
    rw [ec, ed]
    show UInt32.ofNat (FP.Core.encode FP.Core.b32 (if d = 0 then _ else FP.Core.roundRatio FP.Core.b32 (false != false) c d (q - r))) = _
    rw [if_neg (hd (by omega))]
    rfl
  rw [e]
  exact ⟨n32_of (enc32 (ok32 c d (q - r))), cvOk_of (enc32 (ok32 c d (q - r)))⟩
section CV
variable {I : MI} {J : MJ} {d : Nat → Int32}
theorem k_covL {K : Int32 → Int32 → MI → MJ → Prop} (W : WF d) (C : RC I J 0 d) (h : K (nI (sU d (dn d 0))) (nI (sT d (dn d 0))) I J) : ∀ (f r : Nat) (x1 x2 x3 : Int32), r + f = dn d 0 → x1 = nI (sU d r) → x2 = nI (sT d r) → x3 = nI r → f_X7_covered_L6 K (f + 1) x1 x2 x3 I J := by
  have b6 := wf_rows W
  intro f
  induction f with
  | zero =>
    intro r x1 x2 x3 hr e1 e2 e3
    have er : r = dn d 0 := by omega
    show f_X7_covered_B6 K _ x1 x2 x3 I J
    refine q_le (dn d 0) r (by omega) (by omega) (e_rows W C) e3 (fun _ => ?_) (fun q => absurd q (by omega))
    rw [e1, e2, er]
    exact h
  | succ f ih =>
    intro r x1 x2 x3 hr e1 e2 e3
    have r6 : r < 6 := by omega
    have c := C.2.2.1 r (by omega)
    have eu : I 0 8 x3.toNatClampNeg = nI (mUse d r) := by rw [cln (by omega) e3]; exact c.2.1.trans (wf_c W (okc_row r6 (k := 1) (by decide) (by decide)))
    have et : I 0 3 x3.toNatClampNeg = nI (mTil d r) := by rw [cln (by omega) e3]; exact c.1.trans (wf_c W (okc_row r6 (k := 0) (by decide) (by decide)))
    show f_X7_covered_B6 K _ x1 x2 x3 I J
    refine q_le (dn d 0) r (by omega) (by omega) (e_rows W C) e3 (fun q => absurd q (by omega)) (fun _ => ⟨vin r 6 r6 (by decide) e3, fun y1 f1 => ⟨vin r 6 r6 (by decide) e3, fun y2 f2 y3 f3 => ih (r + 1) y1 y2 y3 (by omega) ?_ ?_ ?_⟩⟩)
    · rw [f1, e1, eu, nI_add]; rfl
    · rw [f2, e2, et, nI_add]; rfl
    · rw [f3, e3, nlit 1, nI_add]
theorem m_covL {K : Int32 → Int32 → MI → MJ → Prop} (W : WF (I 12 2)) (h : K (nI (sU (I 12 2) (dn (I 12 2) 0))) (nI (sT (I 12 2) (dn (I 12 2) 0))) I J) : ∀ (f r : Nat) (x1 x2 x3 : Int32), r + f = dn (I 12 2) 0 → x1 = nI (sU (I 12 2) r) → x2 = nI (sT (I 12 2) r) → x3 = nI r → f_X8_covered_L11 K (f + 1) x1 x2 x3 I J := by
  have b6 := wf_rows W
  intro f
  induction f with
  | zero =>
    intro r x1 x2 x3 hr e1 e2 e3
    have er : r = dn (I 12 2) 0 := by omega
    show f_X8_covered_B11 K _ x1 x2 x3 I J
    refine ⟨vin 0 1802 (by decide) (by decide) rfl, q_le (dn (I 12 2) 0) r (by omega) (by omega) (c0 W) e3 (fun _ => ?_) (fun q => absurd q (by omega))⟩
    rw [e1, e2, er]
    exact h
  | succ f ih =>
    intro r x1 x2 x3 hr e1 e2 e3
    have r6 : r < 6 := by omega
    show f_X8_covered_B11 K _ x1 x2 x3 I J
    refine ⟨vin 0 1802 (by decide) (by decide) rfl, q_le (dn (I 12 2) 0) r (by omega) (by omega) (c0 W) e3 (fun q => absurd q (by omega)) (fun _ => m_ofRow r 1 e3 rfl r6 (by decide) (fun y1 f1 => m_ofRow r 0 e3 rfl r6 (by decide) (fun y2 f2 y3 f3 => ih (r + 1) y1 y2 y3 (by omega) ?_ ?_ ?_)))⟩
    · rw [f1, e1, wf_c W (okc_row r6 (k := 1) (by decide) (by decide)), nI_add]; rfl
    · rw [f2, e2, wf_c W (okc_row r6 (k := 0) (by decide) (by decide)), nI_add]; rfl
    · rw [f3, e3, nlit 1, nI_add]
theorem sT_ge (W : WF d) : ∀ r, 1 ≤ r → r ≤ 6 → 1 ≤ sT d r ∧ sU d r ≤ sT d r ∧ sT d r ≤ 40 * r := by
  intro r
  induction r with
  | zero => intro h; exact absurd h (by decide)
  | succ r ih =>
    intro _ h
    have w := W.2.2.1 r (by omega)
    show 1 ≤ sT d r + mTil d r ∧ sU d r + mUse d r ≤ sT d r + mTil d r ∧ sT d r + mTil d r ≤ 40 * (r + 1)
    by_cases z : r = 0
    · subst z
      have t1 : 1 ≤ mTil d 0 := W.2.1.2.2.2.2.2.2.2.2.2.2
      have a : sT d 0 = 0 := rfl
      have b : sU d 0 = 0 := rfl
      omega
    · have i := ih (by omega) (by omega)
      omega
theorem b_covered (V : INV I J) : f_X7_covered I J (fun v I1 J1 => cvOk v ∧ f_X8_covered I1 J1 (fun w I2 J2 => v = w ∧ INV I2 J2)) := by
  obtain ⟨⟨W, Lv, C⟩, -⟩ := id V
  have b6 := wf_rows W
  have b1 : 1 ≤ dn (I 12 2) 0 := W.2.1.1.1
  have g := sT_ge W (dn (I 12 2) 0) b1 b6
  have cv := cv_all (u := sU (I 12 2) (dn (I 12 2) 0)) (t := sT (I 12 2) (dn (I 12 2) 0)) g.1 (by omega) g.2.1
  refine ⟨dn (I 12 2) 0 + 1, k_covL W C ⟨fun z => absurd ((nI_eq (a := sT (I 12 2) (dn (I 12 2) 0)) (b := 0) (by omega) (by decide)).mp z) (by omega), fun _ => ⟨cv.1, cv.2, ?_⟩⟩ (dn (I 12 2) 0) 0 _ _ _ (Nat.zero_add _) rfl rfl rfl⟩
  intro I1 e1
  have e12 : I1 12 2 = I 12 2 := by rw [e1, sI_ro _ _ _ _ _ (by decide)]
  refine ⟨dn (I 12 2) 0 + 1, m_covL (by rw [e12]; exact W) ?_ (dn (I 12 2) 0) 0 _ _ _ (by rw [e12]; exact Nat.zero_add _) rfl rfl rfl⟩
  rw [e12]
  exact ⟨cv.1, rfl, by rw [e1]; exact INV_m V tI_m⟩
end CV
