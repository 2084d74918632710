/-! DATA ALIKE IN ALL ITS CELLS -/
def eqd (d d' : Nat → Int32) : Prop := ∀ i, i < 1802 → d' i = d i
theorem lt_row {r k : Nat} (hr : r < 6) (hk : k < 45) : rA r + k < 1802 := by show 36 + 45 * r + k < 1802; omega
theorem lt_pl {p k : Nat} (hp : p < 4) (hk : k < 74) : pA p + k < 1802 := by show 306 + 74 * p + k < 1802; omega
theorem lt_w {p k j : Nat} (hp : p < 4) (hk : k < 8) (hj : j < 9) : wA p k + j < 1802 := by show 306 + 74 * p + 2 + 9 * k + j < 1802; omega
theorem eqd_n {d d' : Nat → Int32} (h : eqd d d') {i : Nat} (c : i < 1802) : dn d' i = dn d i := by unfold dn; rw [h i c]
theorem WF_eqd {d d' : Nat → Int32} (W : WF d) (h : eqd d d') : WF d' := by
  have z : ∀ {i : Nat}, i < 1802 → dn d' i = dn d i := fun c => eqd_n h c
  have z1 : dn d' 1 = dn d 1 := z (by decide)
  refine ⟨fun i hi => ?_, ?_, fun r hr => ?_, fun p hp => ?_⟩
  · rw [h i hi.1, z hi.1]; exact W.1 i hi
  · rw [show mTil d' 0 = mTil d 0 from z (lt_row (r := 0) (k := 0) (by decide) (by decide)), z1, z (i := 0) (by decide), z (i := 2) (by decide), z (i := 3) (by decide), z (i := 4) (by decide), z (i := 5) (by decide), z (i := 6) (by decide), z (i := 7) (by decide), z (i := 8) (by decide), z (i := 9) (by decide)]
    exact W.2.1
  · have e0 : mTil d' r = mTil d r := z (lt_row hr (k := 0) (by decide))
    have e1 : mUse d' r = mUse d r := z (lt_row hr (k := 1) (by decide))
    have e2 : mWds d' r = mWds d r := z (lt_row hr (k := 2) (by decide))
    have e4 : mLst d' r = mLst d r := z (lt_row hr (k := 4) (by decide))
    obtain ⟨a1, a2, a3, a4, a5, a6, a7, a8, a9⟩ := W.2.2.1 r hr
    refine ⟨by rw [e0]; exact a1, by rw [e1, e0]; exact a2, by rw [e2, e1]; exact a3, by rw [e4]; exact a4, by rw [e4, e1]; exact a5, by rw [e2, e4]; exact a6, by rw [e2, e1, e4]; exact a7, fun t ht => ?_, by rw [h _ (lt_row hr (k := 3) (by decide)), z1]; exact a9⟩
    rw [e1] at ht
    rw [Nat.add_assoc, z (lt_row hr (k := 5 + t) (by omega)), ← Nat.add_assoc]
    exact a8 t ht
  · have em : mMany d' p = mMany d p := z (lt_pl hp (k := 1) (by decide))
    have w := W.2.2.2 p hp
    refine ⟨by rw [em]; exact w.1, fun k hk => ?_⟩
    rw [em] at hk
    have h8 : k < 8 := Nat.lt_of_lt_of_le hk w.1
    have el : mLen d' p k = mLen d p k := z (lt_w hp h8 (j := 0) (by decide))
    have w2 := w.2 k hk
    refine ⟨by rw [el]; exact w2.1, fun j hj => ?_⟩
    rw [el] at hj
    rw [Nat.add_assoc, z (lt_w hp h8 (j := 1 + j) (by omega)), ← Nat.add_assoc]
    exact w2.2 j hj
theorem LV_eqd {d d' : Nat → Int32} (V : LV d) (h : eqd d d') : LV d' := by
  unfold LV at V ⊢
  rw [eqd_n h (i := 6) (by decide), eqd_n h (i := 7) (by decide), eqd_n h (i := 1) (by decide)]
  exact V
theorem RC_eqd {I : MI} {J : MJ} {b : Nat} {d d' : Nat → Int32} (W : WF d) (C : RC I J b d) (h : eqd d d') : RC I J b d' := by
  have z : ∀ {i : Nat}, i < 1802 → dn d' i = dn d i := fun c => eqd_n h c
  have hr6 := wf_rows W
  have hp4 := wf_pls W
  refine ⟨?_, fun x y hx hy => ?_, fun r hr => ?_, fun p hq => ?_, ?_⟩
  · rw [h 0 (by decide), h 1 (by decide), h 2 (by decide), h 3 (by decide), h 4 (by decide), h 5 (by decide), h 6 (by decide), h 7 (by decide)]
    exact C.1
  · rw [show alk d' x y = alk d x y from by unfold alk; rw [z (i := 10 + x) (by omega), z (i := 10 + y) (by omega)]]
    exact C.2.1 x y hx hy
  · rw [z (i := 0) (by decide)] at hr
    have r6 : r < 6 := by omega
    have c := C.2.2.1 r hr
    have w := W.2.2.1 r r6
    have e1 : mUse d' r = mUse d r := z (lt_row r6 (k := 1) (by decide))
    have e4 : mLst d' r = mLst d r := z (lt_row r6 (k := 4) (by decide))
    have el : mLat d' r = mLat d r := by show rA r + 5 + mUse d' r - mLst d' r = _; rw [e1, e4]
    refine ⟨?_, ?_, ?_, ?_, ?_, fun t ht => ?_⟩
    · exact c.1.trans (h _ (lt_row r6 (k := 0) (by decide))).symm
    · exact c.2.1.trans (h _ (lt_row r6 (k := 1) (by decide))).symm
    · exact c.2.2.1.trans (h _ (lt_row r6 (k := 2) (by decide))).symm
    · exact c.2.2.2.1.trans (h _ (lt_row r6 (k := 3) (by decide))).symm
    · rw [el, e4, pk_ch (d := d) _ (fun j hj => ?_)]
      · exact c.2.2.2.2.1
      · have e : mLat d r + j = rA r + (5 + mUse d r - mLst d r + j) := by
          show rA r + 5 + mUse d r - mLst d r + j = _
          omega
        rw [e]
        exact z (lt_row r6 (by omega))
    · rw [e1] at ht
      rw [c.2.2.2.2.2 t ht, Nat.add_assoc]
      exact (h _ (lt_row r6 (k := 5 + t) (by omega))).symm
  · rw [z (i := 1) (by decide)] at hq
    have p4 : p < 4 := by omega
    have c := C.2.2.2.1 p hq
    have w := W.2.2.2 p p4
    refine ⟨?_, ?_, fun k hk => ?_⟩
    · exact c.1.trans (h _ (lt_pl p4 (k := 1) (by decide))).symm
    · exact c.2.1.trans (h _ (lt_pl p4 (k := 0) (by decide))).symm
    · rw [show mMany d' p = mMany d p from z (lt_pl p4 (k := 1) (by decide))] at hk
      have h8 : k < 8 := Nat.lt_of_lt_of_le hk w.1
      have w2 := (w.2 k hk).1
      rw [show mLen d' p k = mLen d p k from z (lt_w p4 h8 (j := 0) (by decide)), pk_ch (d := d) _ (fun j hj => ?_)]
      · exact c.2.2 k hk
      · rw [Nat.add_assoc]
        exact z (lt_w p4 h8 (j := 1 + j) (by omega))
  · obtain ⟨L, l1, l2, l3, l4, l5, l6⟩ := C.2.2.2.2
    have b9 : dn d 9 ≤ 1200 := W.2.1.2.2.2.2.2.2.2.2.2.1
    refine ⟨L, l1, l2, l3, l4, by rw [z (i := 8) (by decide)]; exact l5, ?_⟩
    rw [z (i := 8) (by decide), z (i := 9) (by decide)]
    exact fun q => ⟨(l6 q).1, fun i hi => by rw [z (i := 602 + i) (by omega)]; exact (l6 q).2 i hi⟩
theorem eqd_cpd (f g : Nat → Int32) : eqd f (cpd f g 1802) := fun i hi => if_pos hi
/-- an earlier game, in any cells that say the same -/
theorem HI_row {I I' : MI} {J J' : MJ} {d d' : Nat → Int32} {b b' : Nat} (h : WF d ∧ LV d ∧ RC I J b d) (e : eqd d d') (hb : b' = b) (hI : I' b = I b) (hJ : J' b = J b) : WF d' ∧ LV d' ∧ RC I' J' b' d' := by
  subst hb
  exact ⟨WF_eqd h.1 e, LV_eqd h.2.1 e, RC_blk (RC_eqd h.1 h.2.2 e) hI hJ⟩
