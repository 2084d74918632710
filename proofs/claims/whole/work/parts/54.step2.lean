/-! A STEP BY RANK: the model -/
section SM2
variable {I : MI} {J : MJ}
theorem m_step {K : MI → MJ → Prop} (W : WF (I 12 2)) (L : List TK) (T : mTok (I 12 2) L) (hq : dn (I 12 2) 7 < dn (I 12 2) 1) (h : ∀ J2, sJ2 J J2 → K (rI I 12 2 (dStep (I 12 2) L)) J2) :
    f_X8_bestPlay I J (fun v I J => ((v = (-1 : Int32) → f_X8_passNow I J (fun I J => K I J)) ∧ (¬ v = (-1 : Int32) → (¬ (10 : Int32) = 0 ∧ (¬ (10 : Int32) = 0 ∧ f_X8_layNow (v / (10 : Int32)) (v - v / (10 : Int32) * (10 : Int32)) I J (fun _ I J => K I J)))))) := by
  have h6 := wf_rows W
  have wt := W.2.2.2 _ (wf_turn W)
  refine m_bestPlay W L T (fun v J2 hJ hv => ?_)
  have h2 := h J2 hJ
  rcases best_ok (I 12 2) L with q | ⟨k, r, hk, hr, hz, e⟩
  · rw [q] at hv
    unfold dStep at h2
    rw [if_pos q] at h2
    exact q_t ((m1_iff v).mpr hv) (m_passNow W h2 hq)
  · rw [e] at hv
    have ev := v_nI (show 10 * k + r < 2 ^ 31 by omega) hv
    obtain ⟨x1, x2, x3⟩ := q10 k (by omega) r (by omega)
    rw [dStep_lay e (by omega)] at h2
    exact q_f (by rw [ev]; exact x3) ⟨by decide, by decide, m_layNow W k r (by rw [ev]; exact x1) (by rw [ev]; exact x2) hk (by omega) (mRef_fit hz) h2⟩
end SM2
/-- a game that goes on has not been passed by all: so after each change -/
theorem LV_over {d : Nat → Int32} (W : WF d) : LV (dEnd d) := by
  intro z
  have e : dEnd d 6 = 1 := ((payN_ok (WF_over W) (dn d 0) (wf_rows W)).2 6 (fun p _ => by show 6 ≠ 306 + 74 * p; omega)).trans (upd_at _ _ _)
  have e2 : dn (dEnd d) 6 = 1 := by unfold dn; rw [e]; rfl
  omega
theorem LV_next {d : Nat → Int32} (h : dn d 7 < dn d 1) : LV (dNext d) := by
  intro _
  have e7 : dn (dNext d) 7 = dn d 7 := congrArg Int32.toNatClampNeg (next_far (by decide))
  have e1 : dn (dNext d) 1 = dn d 1 := congrArg Int32.toNatClampNeg (next_far (by decide))
  rw [e7, e1]; exact h
theorem LV_pass {d : Nat → Int32} (W : WF d) (hq : dn d 7 < dn d 1) : LV (dPass d) := by
  have h4 := W.2.1.2.1
  have W7 := WF_7 W (dn d 7 + 1) hq
  unfold dPass
  split
  · exact LV_over W7
  · next q =>
    refine LV_next ?_
    have e7 : dn (upd d 7 (nI (dn d 7 + 1))) 7 = dn d 7 + 1 := (congrArg Int32.toNatClampNeg (upd_at _ _ _)).trans (nI_clamp (by omega))
    have e1 : dn (upd d 7 (nI (dn d 7 + 1))) 1 = dn d 1 := congrArg Int32.toNatClampNeg (upd_ot _ _ (by decide))
    rw [e7, e1]; omega
theorem LV_lay {d : Nat → Int32} {k r : Nat} (W : WF d) (hk : k < mMany d (dn d 5)) (hr : r < dn d 0) (hn : mLen d (dn d 5) k ≤ mFree d r) : LV (dLay d k r) := by
  have h6 := wf_rows W
  have W4 := WF_lay4 W hk (show r < 6 by omega) hn
  unfold dLay
  split
  · exact LV_over W4
  · refine LV_next ?_
    have e7 : dn (lay4 d k r) 7 = 0 := congrArg Int32.toNatClampNeg lay4_7
    have := W4.2.1.2.1.1
    omega
theorem LV_step {d : Nat → Int32} (W : WF d) (L : List TK) (hq : dn d 7 < dn d 1) : LV (dStep d L) := by
  have h6 := wf_rows W
  rcases best_ok d L with q | ⟨k, r, hk, hr, hz, e⟩
  · unfold dStep; rw [if_pos q]; exact LV_pass W hq
  · rw [dStep_lay e (by omega)]; exact LV_lay W hk hr (mRef_fit hz)
