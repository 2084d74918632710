/-! A WORD LAID: the data stay well-formed -/
def gd (d : Nat → Int32) : Prop := ∀ i, okc i → d i = nI (dn d i) ∧ dn d i < 1048576
theorem gv (n : Nat) (h : n < 1048576) : nI n = nI (nI n).toNatClampNeg ∧ (nI n).toNatClampNeg < 1048576 := by
  rw [nI_clamp (by omega)]
  exact ⟨rfl, h⟩
theorem gd_upd {d : Nat → Int32} (g : gd d) (i : Nat) (v : Int32) (hv : okc i → v = nI v.toNatClampNeg ∧ v.toNatClampNeg < 1048576) : gd (upd d i v) := fun j hj => by
  by_cases q : j = i
  · subst q; unfold dn; rw [upd_at]; exact hv hj
  · unfold dn; rw [upd_ot _ _ q]; exact g j hj
theorem gd_cpy {d : Nat → Int32} (g : gd d) (a b n : Nat) (h : ∀ j, j < n → okc (a + j)) : gd (cpy d a b n) := fun i hi => by
  by_cases q : b ≤ i ∧ i < b + n
  · unfold dn cpy; rw [if_pos q]; exact g _ (h _ (by omega))
  · unfold dn cpy; rw [if_neg q]; exact g i hi
section LW
variable {d : Nat → Int32} {k r : Nat}
theorem lay_fit (W : WF d) (hr : r < 6) (hn : mLen d (dn d 5) k ≤ mFree d r) : mUse d r + mLen d (dn d 5) k ≤ mTil d r := by
  have := (W.2.2.1 r hr).2.1
  have : mLen d (dn d 5) k ≤ mTil d r - mUse d r := hn
  omega
theorem gd_lay4 (W : WF d) (hk : k < mMany d (dn d 5)) (hr : r < 6) (hn : mLen d (dn d 5) k ≤ mFree d r) : gd (lay4 d k r) := by
  have ht := wf_turn W
  have wt := W.2.2.2 _ ht
  have wr := W.2.2.1 r hr
  have w1 := (wt.2 k hk).1
  have hu := lay_fit W hr hn
  have h8 : k < 8 := Nat.lt_of_lt_of_le hk wt.1
  have g1 : gd (lay1 d k r (mLen d (dn d 5) k)) := by
    refine gd_cpy W.1 _ _ _ (fun j hj => ?_)
    rw [show wA (dn d 5) k + 1 + j = pA (dn d 5) + (2 + 9 * k + 1 + j) by show 306 + 74 * dn d 5 + 2 + 9 * k + 1 + j = 306 + 74 * dn d 5 + (2 + 9 * k + 1 + j); omega]
    exact okc_pl ht (by omega) (by omega)
  have g2 : gd (lay2 d k r) := by
    refine gd_upd (gd_upd (gd_upd (gd_upd (gd_upd (gd_upd g1 _ _ (fun _ => gv _ (by omega))) _ _ (fun _ => gv _ (by omega))) _ _ (fun _ => gv _ (by omega))) _ _ (fun _ => gv _ (by omega))) _ _ (fun q => absurd rfl (q.2.2 _ ht))) _ _ (fun _ => gv _ (by omega))
  have g3 : gd (lay3 d k r (9 * (mMany d (dn d 5) - 1 - k))) := by
    refine gd_cpy g2 _ _ _ (fun j hj => ?_)
    rw [show wA (dn d 5) k + 9 + j = pA (dn d 5) + (2 + 9 * k + 9 + j) by show 306 + 74 * dn d 5 + 2 + 9 * k + 9 + j = 306 + 74 * dn d 5 + (2 + 9 * k + 9 + j); omega]
    exact okc_pl ht (by omega) (by omega)
  exact gd_upd g3 7 0 (fun _ => gv 0 (by decide))
theorem WF_lay4 (W : WF d) (hk : k < mMany d (dn d 5)) (hr : r < 6) (hn : mLen d (dn d 5) k ≤ mFree d r) : WF (lay4 d k r) := by
  have ht := wf_turn W
  have htp := wf_tp W
  have wt := W.2.2.2 _ ht
  have wr := W.2.2.1 r hr
  have w1 := (wt.2 k hk).1
  have hu := lay_fit W hr hn
  have h8 : k < 8 := Nat.lt_of_lt_of_le hk wt.1
  have h40 : mUse d r + mLen d (dn d 5) k ≤ 40 := by omega
  have far : ∀ {i : Nat}, i ≠ 7 → (i < 36 + 45 * r ∨ 36 + 45 * r + 45 ≤ i) → (i < 306 + 74 * dn d 5 ∨ 306 + 74 * dn d 5 + 74 ≤ i) → lay4 d k r i = d i := fun h7 a c => lay4_far h7 h40 hr hk wt.1 a c
  have zl : ∀ {i : Nat}, i < 36 → i ≠ 7 → dn (lay4 d k r) i = dn d i := fun a c => congrArg Int32.toNatClampNeg (far c (by omega) (by omega))
  have z1 := zl (i := 1) (by decide) (by decide)
  have z7 : dn (lay4 d k r) 7 = 0 := congrArg Int32.toNatClampNeg lay4_7
  have e00 : mTil (lay4 d k r) 0 = mTil d 0 := by
    by_cases q : r = 0
    · subst q
      exact congrArg Int32.toNatClampNeg ((lay4_row (j := 0) hr (by decide)).trans ((lay2_ot (by omega) (by omega)).trans (cpy_out (Or.inl (by show 36 + 45 * 0 + 0 < 36 + 45 * 0 + 5 + _; omega)))))
    · exact congrArg Int32.toNatClampNeg (far (i := 36 + 45 * 0) (by decide) (Or.inl (by omega)) (Or.inl (by omega)))
  refine ⟨gd_lay4 W hk hr hn, ?_, fun r' hr' => ?_, fun p hp => ?_⟩
  · rw [e00, z7, z1, zl (i := 0) (by decide) (by decide), zl (i := 2) (by decide) (by decide), zl (i := 3) (by decide) (by decide), zl (i := 4) (by decide) (by decide), zl (i := 5) (by decide) (by decide), zl (i := 6) (by decide) (by decide), zl (i := 8) (by decide) (by decide), zl (i := 9) (by decide) (by decide)]
    obtain ⟨a0, a1, a2, a3, a4, a5, a6, _, a8, a9⟩ := W.2.1
    exact ⟨a0, a1, a2, a3, a4, a5, a6, Nat.zero_le _, a8, a9⟩
  · by_cases q : r' = r
    · subst q
      have e0 : mTil (lay4 d k r') r' = mTil d r' := congrArg Int32.toNatClampNeg ((lay4_row (j := 0) hr (by decide)).trans ((lay2_ot (by omega) (by omega)).trans (cpy_out (Or.inl (by show 36 + 45 * r' + 0 < 36 + 45 * r' + 5 + _; omega)))))
      have e1 : mUse (lay4 d k r') r' = mUse d r' + mLen d (dn d 5) k := by
        show (lay4 d k r' (36 + 45 * r' + 1)).toNatClampNeg = _
        rw [lay4_row hr (by decide), lay2_1 hr, nI_clamp (by omega)]
      have e2 : mWds (lay4 d k r') r' = mWds d r' + 1 := by
        show (lay4 d k r' (36 + 45 * r' + 2)).toNatClampNeg = _
        rw [lay4_row hr (by decide), lay2_2 hr, nI_clamp (by omega)]
      have e4 : mLst (lay4 d k r') r' = mLen d (dn d 5) k := by
        show (lay4 d k r' (36 + 45 * r' + 4)).toNatClampNeg = _
        rw [lay4_row hr (by decide), lay2_4 hr, nI_clamp (by omega)]
      have e3 : lay4 d k r' (rA r' + 3) = nI (dn d 5) := by
        show lay4 d k r' (36 + 45 * r' + 3) = _
        rw [lay4_row hr (by decide), lay2_3 hr]
      refine ⟨by rw [e0]; exact wr.1, by rw [e1, e0]; exact hu, by rw [e2, e1]; omega, by rw [e4]; omega, by rw [e4, e1]; omega, fun _ => by rw [e4]; omega, fun z => absurd z (by rw [e2]; omega), fun t htt => ?_, Or.inr ⟨dn d 5, by rw [z1]; exact htp, e3⟩⟩
      rw [e1] at htt
      show (lay4 d k r' (36 + 45 * r' + 5 + t)).toNatClampNeg < 26
      by_cases z : t < mUse d r'
      · rw [lay4_let hr z (by omega)]
        exact wr.2.2.2.2.2.2.2.1 t z
      · rw [show t = mUse d r' + (t - mUse d r') by omega, lay4_new hr (by omega) h40]
        exact (wt.2 k hk).2 (t - mUse d r') (by omega)
    · have fr : ∀ {j : Nat}, j < 45 → lay4 d k r (rA r' + j) = d (rA r' + j) := fun {j} hj => far (by show 36 + 45 * r' + j ≠ 7; omega) (by show 36 + 45 * r' + j < 36 + 45 * r ∨ _ ≤ 36 + 45 * r' + j; omega) (by show 36 + 45 * r' + j < 306 + 74 * dn d 5 ∨ _ ≤ 36 + 45 * r' + j; omega)
      have frn : ∀ {j : Nat}, j < 45 → dn (lay4 d k r) (rA r' + j) = dn d (rA r' + j) := fun hj => congrArg Int32.toNatClampNeg (fr hj)
      have e0 : mTil (lay4 d k r) r' = mTil d r' := frn (j := 0) (by decide)
      have e1 : mUse (lay4 d k r) r' = mUse d r' := frn (j := 1) (by decide)
      have e2 : mWds (lay4 d k r) r' = mWds d r' := frn (j := 2) (by decide)
      have e4 : mLst (lay4 d k r) r' = mLst d r' := frn (j := 4) (by decide)
      obtain ⟨a1, a2, a3, a4, a5, a6, a7, a8, a9⟩ := W.2.2.1 r' hr'
      refine ⟨by rw [e0]; exact a1, by rw [e1, e0]; exact a2, by rw [e2, e1]; exact a3, by rw [e4]; exact a4, by rw [e4, e1]; exact a5, by rw [e2, e4]; exact a6, by rw [e2, e1, e4]; exact a7, fun t htt => ?_, by rw [fr (j := 3) (by decide), z1]; exact a9⟩
      rw [e1] at htt
      rw [Nat.add_assoc, frn (j := 5 + t) (by omega), ← Nat.add_assoc]
      exact a8 t htt
  · by_cases q : p = dn d 5
    · subst q
      have em : mMany (lay4 d k r) (dn d 5) = mMany d (dn d 5) - 1 := by
        show (lay4 d k r (306 + 74 * dn d 5 + 1)).toNatClampNeg = _
        rw [lay4_lo (by omega) (by omega), lay2_many, nI_clamp (by omega)]
      refine ⟨by rw [em]; omega, fun c hc => ?_⟩
      rw [em] at hc
      by_cases z : c < k
      · have f : ∀ {j : Nat}, j < 9 → dn (lay4 d k r) (306 + 74 * dn d 5 + 2 + 9 * c + j) = dn d (306 + 74 * dn d 5 + 2 + 9 * c + j) := fun hj => congrArg Int32.toNatClampNeg (lay4_bef hr z hj h40)
        have w2 := wt.2 c (by omega)
        have el : mLen (lay4 d k r) (dn d 5) c = mLen d (dn d 5) c := f (j := 0) (by decide)
        refine ⟨by rw [el]; exact w2.1, fun j hj => ?_⟩
        rw [el] at hj
        rw [Nat.add_assoc, show dn (lay4 d k r) (wA (dn d 5) c + (1 + j)) = _ from f (j := 1 + j) (by omega), ← Nat.add_assoc]
        exact w2.2 j hj
      · have f : ∀ {j : Nat}, j < 9 → dn (lay4 d k r) (306 + 74 * dn d 5 + 2 + 9 * c + j) = dn d (306 + 74 * dn d 5 + 2 + 9 * (c + 1) + j) := fun hj => congrArg Int32.toNatClampNeg (lay4_aft hr (by omega) (by omega) hj h40)
        have w2 := wt.2 (c + 1) (by omega)
        have el : mLen (lay4 d k r) (dn d 5) c = mLen d (dn d 5) (c + 1) := f (j := 0) (by decide)
        refine ⟨by rw [el]; exact w2.1, fun j hj => ?_⟩
        rw [el] at hj
        rw [Nat.add_assoc, show dn (lay4 d k r) (wA (dn d 5) c + (1 + j)) = _ from f (j := 1 + j) (by omega), ← Nat.add_assoc]
        exact w2.2 j hj
    · have fp : ∀ {j : Nat}, j < 74 → dn (lay4 d k r) (pA p + j) = dn d (pA p + j) := fun {j} hj => congrArg Int32.toNatClampNeg (far (by show 306 + 74 * p + j ≠ 7; omega) (by show 306 + 74 * p + j < 36 + 45 * r ∨ _ ≤ 306 + 74 * p + j; omega) (by show 306 + 74 * p + j < 306 + 74 * dn d 5 ∨ _ ≤ 306 + 74 * p + j; omega))
      have fw : ∀ {c j : Nat}, c < 8 → j < 9 → dn (lay4 d k r) (wA p c + j) = dn d (wA p c + j) := fun {c j} hc hj => by
        rw [show wA p c + j = pA p + (2 + 9 * c + j) by show 306 + 74 * p + 2 + 9 * c + j = 306 + 74 * p + (2 + 9 * c + j); omega]
        exact fp (by omega)
      have em : mMany (lay4 d k r) p = mMany d p := fp (j := 1) (by decide)
      have w := W.2.2.2 p hp
      refine ⟨by rw [em]; exact w.1, fun c hc => ?_⟩
      rw [em] at hc
      have c8 : c < 8 := Nat.lt_of_lt_of_le hc w.1
      have w2 := w.2 c hc
      have el : mLen (lay4 d k r) p c = mLen d p c := fw (j := 0) c8 (by decide)
      refine ⟨by rw [el]; exact w2.1, fun j hj => ?_⟩
      rw [el] at hj
      rw [Nat.add_assoc, fw (j := 1 + j) c8 (by omega), ← Nat.add_assoc]
      exact w2.2 j hj
end LW
