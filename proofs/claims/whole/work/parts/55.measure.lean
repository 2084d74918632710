/-! STEPS END: a measure -/
theorem sumN_dec {f g : Nat → Nat} {t : Nat} : ∀ n, t < n → (∀ p, p < n → p ≠ t → g p = f p) → g t + 1 = f t → sumN g n + 1 = sumN f n
  | 0, h, _, _ => absurd h (by omega)
  | n + 1, h, e, e1 => by
    show sumN g n + g n + 1 = sumN f n + f n
    by_cases q : t = n
    · subst q
      rw [sumN_congr t (fun k hk => e k (by omega) (by omega))]
      omega
    · have ih := sumN_dec n (by omega) (fun p hp hn => e p (by omega) hn) e1
      have := e n (by omega) (fun z => q z.symm)
      omega
theorem sWords_lay4 {d : Nat → Int32} {k r : Nat} (W : WF d) (hk : k < mMany d (dn d 5)) (hr : r < 6) (hn : mLen d (dn d 5) k ≤ mFree d r) : sWords (lay4 d k r) + 1 = sWords d := by
  have h4 := wf_pls W
  have ht := wf_turn W
  have wt := W.2.2.2 _ ht
  have wr := W.2.2.1 r hr
  have hu := lay_fit W hr hn
  have h40 : mUse d r + mLen d (dn d 5) k ≤ 40 := by omega
  have e1 : dn (lay4 d k r) 1 = dn d 1 := congrArg Int32.toNatClampNeg (lay4_far (by decide) h40 hr hk wt.1 (by omega) (by omega))
  unfold sWords
  rw [e1]
  refine sumN_dec (t := dn d 5) (dn d 1) (wf_tp W) (fun p hp hne => ?_) ?_
  · exact congrArg Int32.toNatClampNeg (lay4_far (i := 306 + 74 * p + 1) (by omega) h40 hr hk wt.1 (by omega) (by omega))
  · have em : mMany (lay4 d k r) (dn d 5) = mMany d (dn d 5) - 1 := by
      show (lay4 d k r (306 + 74 * dn d 5 + 1)).toNatClampNeg = _
      rw [lay4_lo (by omega) (by omega), lay2_many, nI_clamp (by omega)]
    show mMany (lay4 d k r) (dn d 5) + 1 = mMany d (dn d 5)
    rw [em]; omega
theorem sWords_rest {d d' : Nat → Int32} (W : WF d) (h : rest d d') : sWords d' = sWords d := by
  have h4 := wf_pls W
  unfold sWords
  rw [rest_n h (calm_lo (i := 1) (by decide) (by decide))]
  exact sumN_congr _ (fun p hp => rest_n h (calm_pl (k := 1) (by omega) (by decide) (by decide)))
def mu (d : Nat → Int32) : Nat := 5 * sWords d + (dn d 1 - dn d 7)
theorem end_6 {d : Nat → Int32} (W : WF d) : dn (dEnd d) 6 = 1 := by
  have e : dEnd d 6 = 1 := ((payN_ok (WF_over W) (dn d 0) (wf_rows W)).2 6 (fun p _ => by show 6 ≠ 306 + 74 * p; omega)).trans (upd_at _ _ _)
  unfold dn; rw [e]; rfl
theorem mu_next {d : Nat → Int32} (W : WF d) : mu (dNext d) = mu d := by
  have e7 : dn (dNext d) 7 = dn d 7 := congrArg Int32.toNatClampNeg (next_far (by decide))
  have e1 : dn (dNext d) 1 = dn d 1 := congrArg Int32.toNatClampNeg (next_far (by decide))
  unfold mu
  rw [e7, e1, sWords_rest W (d' := dNext d) (fun i c => next_far c.1)]
theorem mu_step {d : Nat → Int32} (W : WF d) (L : List TK) (hq : dn d 7 < dn d 1) : dn (dStep d L) 6 = 1 ∨ mu (dStep d L) < mu d := by
  have h6 := wf_rows W
  have h4 := W.2.1.2.1
  rcases best_ok d L with q | ⟨k, r, hk, hr, hz, e⟩
  · have W7 := WF_7 W (dn d 7 + 1) hq
    have e7 : dn (upd d 7 (nI (dn d 7 + 1))) 7 = dn d 7 + 1 := (congrArg Int32.toNatClampNeg (upd_at _ _ _)).trans (nI_clamp (by omega))
    have e1 : dn (upd d 7 (nI (dn d 7 + 1))) 1 = dn d 1 := congrArg Int32.toNatClampNeg (upd_ot _ _ (by decide))
    unfold dStep dPass
    rw [if_pos q]
    split
    · exact Or.inl (end_6 W7)
    · refine Or.inr ?_
      rw [mu_next W7]
      unfold mu
      rw [e7, e1, sWords_rest W (d' := upd d 7 (nI (dn d 7 + 1))) (fun i c => upd_ot _ _ c.2.2.1)]
      omega
  · have hn := mRef_fit hz
    have W4 := WF_lay4 W hk (show r < 6 by omega) hn
    rw [dStep_lay e (by omega)]
    unfold dLay
    split
    · exact Or.inl (end_6 W4)
    · refine Or.inr ?_
      rw [mu_next W4]
      have s := sWords_lay4 W hk (show r < 6 by omega) hn
      have b4 := W4.2.1.2.1.2
      unfold mu
      omega
theorem mu_le {d : Nat → Int32} (W : WF d) : mu d ≤ 164 := by
  have := sWords_le W
  have := wf_pls W
  unfold mu
  omega
