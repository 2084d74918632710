/-! STEPS: what they leave alone -/
theorem end_far {d : Nat → Int32} (W : WF d) {i : Nat} (h6 : i ≠ 6) (hp : ∀ p, p < 4 → i ≠ pA p) : dEnd d i = d i :=
  ((payN_ok (WF_over W) (dn d 0) (wf_rows W)).2 i hp).trans (upd_ot _ _ h6)
theorem next_far {d : Nat → Int32} {i : Nat} (h5 : i ≠ 5) : dNext d i = d i := upd_ot _ _ h5
/-- the cells of the rules and of the rank -/
def still (i : Nat) : Prop := i ≠ 5 ∧ i ≠ 6 ∧ i ≠ 7 ∧ (i < 36 ∨ 602 ≤ i)
theorem still_pt {i : Nat} (h : still i) : ∀ p, p < 4 → i ≠ pA p := fun p hp => by
  have := h.2.2.2
  show i ≠ 306 + 74 * p
  omega
theorem pass_far {d : Nat → Int32} (W : WF d) (hq : dn d 7 < dn d 1) {i : Nat} (h : still i) : dPass d i = d i := by
  unfold dPass
  split
  · exact (end_far (WF_7 W _ hq) h.2.1 (still_pt h)).trans (upd_ot _ _ h.2.2.1)
  · exact (next_far h.1).trans (upd_ot _ _ h.2.2.1)
theorem lay_far {d : Nat → Int32} {k r : Nat} (W : WF d) (hk : k < mMany d (dn d 5)) (hr : r < dn d 0) (hn : mLen d (dn d 5) k ≤ mFree d r) {i : Nat} (h : still i) : dLay d k r i = d i := by
  have h6 := wf_rows W
  have r6 : r < 6 := by omega
  have ht := wf_turn W
  have wt := W.2.2.2 _ ht
  have wr := W.2.2.1 r r6
  have hu := lay_fit W r6 hn
  have W4 := WF_lay4 W hk r6 hn
  have h36 := h.2.2.2
  have e : lay4 d k r i = d i := lay4_far h.2.2.1 (by omega) r6 hk wt.1 (by omega) (by omega)
  unfold dLay
  split
  · exact (end_far W4 h.2.1 (still_pt h)).trans e
  · exact (next_far h.1).trans e
theorem step_far {d : Nat → Int32} (W : WF d) (L : List TK) (hq : dn d 7 < dn d 1) {i : Nat} (h : still i) : dStep d L i = d i := by
  have h6 := wf_rows W
  rcases best_ok d L with q | ⟨k, r, hk, hr, hz, e⟩
  · unfold dStep; rw [if_pos q]; exact pass_far W hq h
  · rw [dStep_lay e (by omega)]; exact lay_far W hk hr (mRef_fit hz) h
theorem tok_step {d : Nat → Int32} (W : WF d) {L : List TK} (T : mTok d L) (hq : dn d 7 < dn d 1) : mTok (dStep d L) L := by
  have f : ∀ {i : Nat}, still i → dn (dStep d L) i = dn d i := fun h => congrArg Int32.toNatClampNeg (step_far W L hq h)
  have z8 : dn (dStep d L) 8 = dn d 8 := f (by unfold still; omega)
  have z9 : dn (dStep d L) 9 = dn d 9 := f (by unfold still; omega)
  obtain ⟨t1, t2, t3, t4⟩ := T
  refine ⟨t1, t2, by rw [z8]; exact t3, ?_⟩
  rw [z8, z9]
  exact fun q => ⟨(t4 q).1, fun i hi => by rw [f (show still (602 + i) by unfold still; omega)]; exact (t4 q).2 i hi⟩
