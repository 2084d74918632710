/-! A WORD LAID: the class' block afterwards -/
theorem RC_lay {I I' : MI} {J J' : MJ} {b k r : Nat} {d : Nat → Int32} (W : WF d) (C : RC I J b d) (hk : k < mMany d (dn d 5)) (hr : r < dn d 0) (hn : mLen d (dn d 5) k ≤ mFree d r)
    (hI : ∀ q, q = 1 ∨ q = 2 ∨ q = 3 ∨ q = 4 ∨ q = 5 → I' b q = I b q)
    (h9 : I' b 0 9 = I b 0 9) (h11 : I' b 0 11 = I b 0 11) (h10 : I' b 0 10 = 0)
    (r7 : ∀ j, j < mLen d (dn d 5) k → I' b 7 (40 * r + mUse d r + j) = d (wA (dn d 5) k + 1 + j)) (r7' : ∀ i, (i < 40 * r + mUse d r ∨ 40 * r + mUse d r + mLen d (dn d 5) k ≤ i) → I' b 7 i = I b 7 i)
    (r8 : I' b 8 r = nI (mUse d r + mLen d (dn d 5) k)) (r8' : ∀ i, i ≠ r → I' b 8 i = I b 8 i)
    (r9 : I' b 9 r = nI (mWds d r + 1)) (r9' : ∀ i, i ≠ r → I' b 9 i = I b 9 i)
    (r11 : I' b 11 r = nI (dn d 5)) (r11' : ∀ i, i ≠ r → I' b 11 i = I b 11 i)
    (p13 : I' b 13 (dn d 5) = nI (mMany d (dn d 5) - 1)) (p13' : ∀ i, i ≠ dn d 5 → I' b 13 i = I b 13 i)
    (p14 : I' b 14 (dn d 5) = d (pA (dn d 5)) + nI (mPts d (dn d 5) k r)) (p14' : ∀ i, i ≠ dn d 5 → I' b 14 i = I b 14 i)
    (j10 : J' b 10 r = lN (pkN d (wA (dn d 5) k + 1) (mLen d (dn d 5) k))) (j10' : ∀ i, i ≠ r → J' b 10 i = J b 10 i)
    (j12 : ∀ q, q < k → J' b 12 (8 * dn d 5 + q) = J b 12 (8 * dn d 5 + q)) (j12a : ∀ q, k ≤ q → q + 1 < mMany d (dn d 5) → J' b 12 (8 * dn d 5 + q) = J b 12 (8 * dn d 5 + (q + 1))) (j12' : ∀ i, (i < 8 * dn d 5 ∨ 8 * dn d 5 + 8 ≤ i) → J' b 12 i = J b 12 i) : RC I' J' b (lay4 d k r) := by
  have h6 := wf_rows W
  have h4 := wf_pls W
  have hr6 : r < 6 := by omega
  have ht := wf_turn W
  have htp := wf_tp W
  have wt := W.2.2.2 _ ht
  have wr := W.2.2.1 r hr6
  have w1 := (wt.2 k hk).1
  have hu := lay_fit W hr6 hn
  have h8 : k < 8 := Nat.lt_of_lt_of_le hk wt.1
  have h40 : mUse d r + mLen d (dn d 5) k ≤ 40 := by omega
  have far : ∀ {i : Nat}, i ≠ 7 → (i < 36 + 45 * r ∨ 36 + 45 * r + 45 ≤ i) → (i < 306 + 74 * dn d 5 ∨ 306 + 74 * dn d 5 + 74 ≤ i) → lay4 d k r i = d i := fun h7 a c => lay4_far h7 h40 hr6 hk wt.1 a c
  have lo : ∀ {i : Nat}, i < 36 → i ≠ 7 → lay4 d k r i = d i := fun a c => far c (by omega) (by omega)
  have zl : ∀ {i : Nat}, i < 36 → i ≠ 7 → dn (lay4 d k r) i = dn d i := fun a c => congrArg Int32.toNatClampNeg (lo a c)
  have i1 := hI 1 (Or.inl rfl)
  refine ⟨⟨?_, ?_, ?_, ?_, ?_, ?_, ?_, ?_⟩, fun x y hx hy => ?_, fun r' hq => ?_, fun p hq => ?_, ?_⟩
  · rw [i1, lo (i := 0) (by decide) (by decide)]; exact C.1.1
  · rw [i1, lo (i := 1) (by decide) (by decide)]; exact C.1.2.1
  · rw [i1, lo (i := 2) (by decide) (by decide)]; exact C.1.2.2.1
  · rw [i1, lo (i := 3) (by decide) (by decide)]; exact C.1.2.2.2.1
  · rw [i1, lo (i := 4) (by decide) (by decide)]; exact C.1.2.2.2.2.1
  · rw [h9, lo (i := 5) (by decide) (by decide)]; exact C.1.2.2.2.2.2.1
  · rw [h11, lo (i := 6) (by decide) (by decide)]; exact C.1.2.2.2.2.2.2.1
  · rw [h10, lay4_7]
  · rw [hI 4 (by omega), show alk (lay4 d k r) x y = alk d x y from by unfold alk; rw [zl (i := 10 + x) (by omega) (by omega), zl (i := 10 + y) (by omega) (by omega)]]
    exact C.2.1 x y hx hy
  · rw [zl (i := 0) (by decide) (by decide)] at hq
    have q6 : r' < 6 := by omega
    have c := C.2.2.1 r' hq
    have w := W.2.2.1 r' q6
    by_cases z : r' = r
    · subst z
      have e0 : lay4 d k r' (rA r') = d (rA r') := (lay4_row (j := 0) hr6 (by decide)).trans ((lay2_ot (by omega) (by omega)).trans (cpy_out (Or.inl (by show 36 + 45 * r' + 0 < 36 + 45 * r' + 5 + _; omega))))
      have e1 : lay4 d k r' (rA r' + 1) = nI (mUse d r' + mLen d (dn d 5) k) := (lay4_row (j := 1) hr6 (by decide)).trans (lay2_1 hr6)
      have e2 : lay4 d k r' (rA r' + 2) = nI (mWds d r' + 1) := (lay4_row (j := 2) hr6 (by decide)).trans (lay2_2 hr6)
      have e3 : lay4 d k r' (rA r' + 3) = nI (dn d 5) := (lay4_row (j := 3) hr6 (by decide)).trans (lay2_3 hr6)
      have e4 : lay4 d k r' (rA r' + 4) = nI (mLen d (dn d 5) k) := (lay4_row (j := 4) hr6 (by decide)).trans (lay2_4 hr6)
      have n1 : mUse (lay4 d k r') r' = mUse d r' + mLen d (dn d 5) k := by
        show (lay4 d k r' (rA r' + 1)).toNatClampNeg = _
        rw [e1, nI_clamp (by omega)]
      have n4 : mLst (lay4 d k r') r' = mLen d (dn d 5) k := by
        show (lay4 d k r' (rA r' + 4)).toNatClampNeg = _
        rw [e4, nI_clamp (by omega)]
      refine ⟨?_, r8.trans e1.symm, r9.trans e2.symm, r11.trans e3.symm, ?_, fun t htt => ?_⟩
      · rw [hI 3 (by omega), e0]; exact c.1
      · rw [j10]
        have el : mLat (lay4 d k r') r' = 36 + 45 * r' + 5 + mUse d r' := by
          show 36 + 45 * r' + 5 + mUse (lay4 d k r') r' - mLst (lay4 d k r') r' = _
          rw [n1, n4]; omega
        rw [el, n4]
        congr 1
        have : ∀ m, m ≤ mLen d (dn d 5) k → pkN d (wA (dn d 5) k + 1) m = pkN (lay4 d k r') (36 + 45 * r' + 5 + mUse d r') m := by
          intro m
          induction m with
          | zero => intro _; rfl
          | succ m ih =>
            intro hm
            rw [pkN_s, pkN_s, ih (by omega)]
            have e := lay4_new (d := d) (k := k) (r := r') (j := m) hr6 (by omega) h40
            rw [← Nat.add_assoc] at e
            rw [show dn (lay4 d k r') (36 + 45 * r' + 5 + mUse d r' + m) = dn d (wA (dn d 5) k + 1 + m) from congrArg Int32.toNatClampNeg e]
        exact this _ (Nat.le_refl _)
      · rw [n1] at htt
        show _ = lay4 d k r' (36 + 45 * r' + 5 + t)
        by_cases z : t < mUse d r'
        · rw [r7' _ (Or.inl (by omega)), lay4_let hr6 z (by omega)]
          exact c.2.2.2.2.2 t z
        · have e := r7 (t - mUse d r') (by omega)
          rw [show 40 * r' + mUse d r' + (t - mUse d r') = 40 * r' + t by omega] at e
          have e2 := lay4_new (d := d) (k := k) (r := r') (j := t - mUse d r') hr6 (by omega) h40
          rw [show mUse d r' + (t - mUse d r') = t by omega] at e2
          exact e.trans e2.symm
    · have fr : ∀ {j : Nat}, j < 45 → lay4 d k r (rA r' + j) = d (rA r' + j) := fun {j} hj => far (by show 36 + 45 * r' + j ≠ 7; omega) (by show 36 + 45 * r' + j < 36 + 45 * r ∨ _ ≤ 36 + 45 * r' + j; omega) (by show 36 + 45 * r' + j < 306 + 74 * dn d 5 ∨ _ ≤ 36 + 45 * r' + j; omega)
      have frn : ∀ {j : Nat}, j < 45 → dn (lay4 d k r) (rA r' + j) = dn d (rA r' + j) := fun hj => congrArg Int32.toNatClampNeg (fr hj)
      have n1 : mUse (lay4 d k r) r' = mUse d r' := frn (j := 1) (by decide)
      have n4 : mLst (lay4 d k r) r' = mLst d r' := frn (j := 4) (by decide)
      have el : mLat (lay4 d k r) r' = mLat d r' := by show rA r' + 5 + mUse (lay4 d k r) r' - mLst (lay4 d k r) r' = _; rw [n1, n4]
      refine ⟨?_, ?_, ?_, ?_, ?_, fun t htt => ?_⟩
      · rw [hI 3 (by omega)]; exact c.1.trans (fr (j := 0) (by decide)).symm
      · rw [r8' _ z]; exact c.2.1.trans (fr (j := 1) (by decide)).symm
      · rw [r9' _ z]; exact c.2.2.1.trans (fr (j := 2) (by decide)).symm
      · rw [r11' _ z]; exact c.2.2.2.1.trans (fr (j := 3) (by decide)).symm
      · rw [j10' _ z, el, n4, pk_ch (d := d) _ (fun j hj => ?_)]
        · exact c.2.2.2.2.1
        · have e : mLat d r' + j = rA r' + (5 + mUse d r' - mLst d r' + j) := by
            show rA r' + 5 + mUse d r' - mLst d r' + j = _
            omega
          rw [e]
          exact frn (by omega)
      · rw [n1] at htt
        rw [r7' _ (by omega), c.2.2.2.2.2 t htt, Nat.add_assoc]
        exact (fr (j := 5 + t) (by omega)).symm
  · rw [zl (i := 1) (by decide) (by decide)] at hq
    have p4 : p < 4 := by omega
    have c := C.2.2.2.1 p hq
    have w := W.2.2.2 p p4
    by_cases z : p = dn d 5
    · subst z
      have em : lay4 d k r (pA (dn d 5) + 1) = nI (mMany d (dn d 5) - 1) := (lay4_lo (i := 306 + 74 * dn d 5 + 1) (by omega) (by omega)).trans lay2_many
      have nm : mMany (lay4 d k r) (dn d 5) = mMany d (dn d 5) - 1 := by
        show (lay4 d k r (pA (dn d 5) + 1)).toNatClampNeg = _
        rw [em, nI_clamp (by omega)]
      refine ⟨p13.trans em.symm, p14.trans ((lay4_lo (i := 306 + 74 * dn d 5) (by omega) (by omega)).trans lay2_pts).symm, fun q hc => ?_⟩
      rw [nm] at hc
      by_cases zq : q < k
      · have f : ∀ {j : Nat}, j < 9 → dn (lay4 d k r) (306 + 74 * dn d 5 + 2 + 9 * q + j) = dn d (306 + 74 * dn d 5 + 2 + 9 * q + j) := fun hj => congrArg Int32.toNatClampNeg (lay4_bef hr6 zq hj h40)
        have w2 := (wt.2 q (by omega)).1
        rw [j12 q zq, show mLen (lay4 d k r) (dn d 5) q = mLen d (dn d 5) q from f (j := 0) (by decide), pk_ch (d := d) _ (fun j hj => ?_)]
        · exact c.2.2 q (by omega)
        · rw [Nat.add_assoc]; exact f (j := 1 + j) (by omega)
      · have f : ∀ {j : Nat}, j < 9 → dn (lay4 d k r) (306 + 74 * dn d 5 + 2 + 9 * q + j) = dn d (306 + 74 * dn d 5 + 2 + 9 * (q + 1) + j) := fun hj => congrArg Int32.toNatClampNeg (lay4_aft hr6 (by omega) (by omega) hj h40)
        have w2 := (wt.2 (q + 1) (by omega)).1
        rw [j12a q (by omega) (by omega), c.2.2 (q + 1) (by omega), show mLen (lay4 d k r) (dn d 5) q = mLen d (dn d 5) (q + 1) from f (j := 0) (by decide)]
        congr 1
        have : ∀ m, m ≤ mLen d (dn d 5) (q + 1) → pkN d (wA (dn d 5) (q + 1) + 1) m = pkN (lay4 d k r) (wA (dn d 5) q + 1) m := by
          intro m
          induction m with
          | zero => intro _; rfl
          | succ m ih =>
            intro hm
            have e : dn (lay4 d k r) (wA (dn d 5) q + 1 + m) = dn d (wA (dn d 5) (q + 1) + 1 + m) := by
              have e := f (j := 1 + m) (by omega)
              rw [← Nat.add_assoc, ← Nat.add_assoc] at e
              exact e
            rw [pkN_s, pkN_s, ih (by omega), e]
        exact this _ (Nat.le_refl _)
    · have fp : ∀ {j : Nat}, j < 74 → lay4 d k r (pA p + j) = d (pA p + j) := fun {j} hj => far (by show 306 + 74 * p + j ≠ 7; omega) (by show 306 + 74 * p + j < 36 + 45 * r ∨ _ ≤ 306 + 74 * p + j; omega) (by show 306 + 74 * p + j < 306 + 74 * dn d 5 ∨ _ ≤ 306 + 74 * p + j; omega)
      have fw : ∀ {c j : Nat}, c < 8 → j < 9 → dn (lay4 d k r) (wA p c + j) = dn d (wA p c + j) := fun {c j} hc hj => by
        rw [show wA p c + j = pA p + (2 + 9 * c + j) by show 306 + 74 * p + 2 + 9 * c + j = 306 + 74 * p + (2 + 9 * c + j); omega]
        exact congrArg Int32.toNatClampNeg (fp (by omega))
      refine ⟨?_, ?_, fun q hc => ?_⟩
      · rw [p13' _ z]; exact c.1.trans (fp (j := 1) (by decide)).symm
      · rw [p14' _ z]; exact c.2.1.trans (fp (j := 0) (by decide)).symm
      · rw [show mMany (lay4 d k r) p = mMany d p from congrArg Int32.toNatClampNeg (fp (j := 1) (by decide))] at hc
        have q8 : q < 8 := Nat.lt_of_lt_of_le hc w.1
        have w2 := (w.2 q hc).1
        rw [j12' _ (by omega), show mLen (lay4 d k r) p q = mLen d p q from fw (j := 0) q8 (by decide), pk_ch (d := d) _ (fun j hj => ?_)]
        · exact c.2.2 q hc
        · rw [Nat.add_assoc]; exact fw (j := 1 + j) q8 (by omega)
  · obtain ⟨L, l1, l2, l3, l4, l5, l6⟩ := C.2.2.2.2
    have z8 : dn (lay4 d k r) 8 = dn d 8 := zl (by decide) (by decide)
    have z9 : dn (lay4 d k r) 9 = dn d 9 := zl (by decide) (by decide)
    refine ⟨L, l1, l2, by rw [hI 2 (by omega)]; exact l3, by rw [hI 5 (by omega)]; exact l4, by rw [z8]; exact l5, ?_⟩
    rw [z8, z9]
    exact fun q => ⟨(l6 q).1, fun i hi => by rw [show dn (lay4 d k r) (602 + i) = dn d (602 + i) from congrArg Int32.toNatClampNeg (far (by omega) (by omega) (by omega))]; exact (l6 q).2 i hi⟩
