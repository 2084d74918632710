/-! A STEP BY RANK, on both sides -/
theorem bp1_ok {d : Nat → Int32} {L : List TK} {k : Nat} : ∀ (n : Nat) (s : Int × Int), (bp1 d L k n s).1 = s.1 ∨ ∃ r, r < n ∧ mRef d k r = 0 ∧ (bp1 d L k n s).1 = ((10 * k + r : Nat) : Int)
  | 0, _ => Or.inl rfl
  | n + 1, s => by
    have ih := bp1_ok (d := d) (L := L) (k := k) n s
    have keep : (bp1 d L k n s).1 = s.1 ∨ ∃ r, r < n + 1 ∧ mRef d k r = 0 ∧ (bp1 d L k n s).1 = ((10 * k + r : Nat) : Int) := by
      rcases ih with q | ⟨r, a, c, e⟩
      · exact Or.inl q
      · exact Or.inr ⟨r, by omega, c, e⟩
    show (bpS d L k n (bp1 d L k n s)).1 = s.1 ∨ ∃ r, r < n + 1 ∧ mRef d k r = 0 ∧ (bpS d L k n (bp1 d L k n s)).1 = _
    unfold bpS
    split
    · next q =>
      split
      · exact Or.inr ⟨n, by omega, q, rfl⟩
      · exact keep
    · exact keep
theorem bp2_ok {d : Nat → Int32} {L : List TK} : ∀ n, (bp2 d L n).1 = -1 ∨ ∃ k r, k < n ∧ r < dn d 0 ∧ mRef d k r = 0 ∧ (bp2 d L n).1 = ((10 * k + r : Nat) : Int)
  | 0 => Or.inl rfl
  | n + 1 => by
    rcases bp1_ok (d := d) (L := L) (k := n) (dn d 0) (bp2 d L n) with q | ⟨r, a, c, e⟩
    · rcases bp2_ok (d := d) (L := L) n with z | ⟨k, r, a, c, e, f⟩
      · exact Or.inl (q.trans z)
      · exact Or.inr ⟨k, r, by omega, c, e, q.trans f⟩
    · exact Or.inr ⟨n, r, by omega, a, c, e⟩
theorem best_ok (d : Nat → Int32) (L : List TK) : mBest d L = -1 ∨ ∃ k r, k < mMany d (dn d 5) ∧ r < dn d 0 ∧ mRef d k r = 0 ∧ mBest d L = ((10 * k + r : Nat) : Int) := bp2_ok _
def dStep (d : Nat → Int32) (L : List TK) : Nat → Int32 := if mBest d L = -1 then dPass d else dLay d ((mBest d L).toNat / 10) ((mBest d L).toNat % 10)
theorem q10 : ∀ k, k < 8 → ∀ r, r < 6 → nI (10 * k + r) / 10 = nI k ∧ nI (10 * k + r) - nI (10 * k + r) / 10 * 10 = nI r ∧ nI (10 * k + r) ≠ -1 := by decide +kernel
theorem v_nI {v : Int32} {n : Nat} (hn : n < 2 ^ 31) (h : v.toInt = (n : Int)) : v = nI n := by
  rw [← Int32.toInt_inj, h, nI_toInt hn]
/-- a game that goes on has not been passed by all -/
def LV (d : Nat → Int32) : Prop := dn d 6 = 0 → dn d 7 < dn d 1
theorem WF_dLay {d : Nat → Int32} {k r : Nat} (W : WF d) (hk : k < mMany d (dn d 5)) (hr : r < dn d 0) (hn : mLen d (dn d 5) k ≤ mFree d r) : WF (dLay d k r) := by
  have h6 := wf_rows W
  have W4 := WF_lay4 W hk (show r < 6 by omega) hn
  unfold dLay
  split
  · exact WF_end W4
  · exact WF_next W4
theorem dStep_lay {d : Nat → Int32} {L : List TK} {k r : Nat} (h : mBest d L = ((10 * k + r : Nat) : Int)) (hr : r < 10) : dStep d L = dLay d k r := by
  unfold dStep
  rw [if_neg (by omega), h, show ((10 * k + r : Nat) : Int).toNat = 10 * k + r from rfl, show (10 * k + r) / 10 = k by omega, show (10 * k + r) % 10 = r by omega]
theorem WF_step {d : Nat → Int32} (W : WF d) (L : List TK) (hq : dn d 7 < dn d 1) : WF (dStep d L) := by
  have h6 := wf_rows W
  rcases best_ok d L with q | ⟨k, r, hk, hr, hz, e⟩
  · unfold dStep; rw [if_pos q]; exact WF_pass W hq
  · rw [dStep_lay e (by omega)]; exact WF_dLay W hk hr (mRef_fit hz)
section SG
variable {I : MI} {J : MJ} {d : Nat → Int32} {b : Nat}
theorem sI2_oB {I I' : MI} {b : Nat} (h : sI2 b I I') : oB b I I' := fun b' r q => h b' r (fun z => by omega)
theorem g_stepByRank {Q : MI → MJ → Prop} (W : WF d) (C : RC I J b d) (L : List TK) (T : mTok d L) (G : gTok I b L) (hq : dn d 7 < dn d 1) (h : ∀ I' J', RC I' J' b (dStep d L) → oB b I I' → oJ b J J' → Q I' J') : f_X1_stepByRank b I J Q := by
  have h6 := wf_rows W
  have wt := W.2.2.2 _ (wf_turn W)
  refine g_bestPlay W C L T G (fun v I2 hI2 hv => ?_)
  have C2 := RC_keep C hI2
  rcases best_ok d L with q | ⟨k, r, hk, hr, hz, e⟩
  · rw [q] at hv
    refine q_t ((m1_iff v).mpr hv) (g_passTurn W C2 hq (fun I' C' g' => h I' J ?_ ((sI2_oB hI2).trans g') (fun _ _ _ => rfl)))
    unfold dStep; rw [if_pos q]; exact C'
  · rw [e] at hv
    have ev := v_nI (show 10 * k + r < 2 ^ 31 by omega) hv
    obtain ⟨x1, x2, x3⟩ := q10 k (by omega) r (by omega)
    refine q_f (by rw [ev]; exact x3) ⟨by decide, by decide, g_layWord W C2 k r (by rw [ev]; exact x1) (by rw [ev]; exact x2) hk hr (mRef_fit hz) (fun I' J' C' g' k' => h I' J' ?_ ((sI2_oB hI2).trans g') k')⟩
    rw [dStep_lay e (by omega)]; exact C'
end SG
