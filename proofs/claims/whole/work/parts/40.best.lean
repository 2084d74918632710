/-! THE BEST PLAY, on both sides -/
theorem up_inv {σ : Type} (Lp : Nat → σ → Int32 → Prop) (Inv : Nat → σ → Prop) (n : Nat) (hend : ∀ (m : Nat) (s : σ), Inv n s → Lp (m + 1) s (nI n))
    (hstep : ∀ (m : Nat) (s : σ) (i : Nat), i < n → Inv i s → (∀ (s' : σ) (j : Int32), Inv (i + 1) s' → j = nI (i + 1) → Lp m s' j) → Lp (m + 1) s (nI i)) (s : σ) (h : Inv 0 s) : Lp (n + 1) s 0 := by
  have key : ∀ k i : Nat, i + k = n → ∀ s, Inv i s → Lp (k + 1) s (nI i) := by
    intro k
    induction k with
    | zero =>
      intro i hi s hs
      have : i = n := by omega
      subst this
      exact hend 0 s hs
    | succ k ih =>
      intro i hi s hs
      refine hstep (k + 1) s i (by omega) hs (fun s' j hs' ej => ?_)
      rw [ej]
      exact ih (i + 1) (by omega) s' hs'
  exact key n 0 (Nat.zero_add n) s h
def bpS (d : Nat → Int32) (L : List TK) (k r : Nat) (s : Int × Int) : Int × Int := if mRef d k r = 0 then (if s.1 = -1 ∨ s.2 < mRank d L k r then ((10 * k + r : Nat), mRank d L k r) else s) else s
def bp1 (d : Nat → Int32) (L : List TK) (k : Nat) : Nat → Int × Int → Int × Int
  | 0, s => s
  | n + 1, s => bpS d L k n (bp1 d L k n s)
def bp2 (d : Nat → Int32) (L : List TK) : Nat → Int × Int
  | 0 => (-1, 0)
  | n + 1 => bp1 d L n (dn d 0) (bp2 d L n)
def mBest (d : Nat → Int32) (L : List TK) : Int := (bp2 d L (mMany d (dn d 5))).1
theorem mRef_fit {d : Nat → Int32} {k r : Nat} (h : mRef d k r = 0) : mLen d (dn d 5) k ≤ mFree d r := by
  unfold mRef mHin at h
  split at h
  · cases h
  · split at h
    · assumption
    · cases h
theorem m1_iff (x : Int32) : x = -1 ↔ x.toInt = -1 := by
  rw [← Int32.toInt_inj]
  rfl
theorem p10 {k r : Nat} (hk : k < 8) (hr : r < 6) {x y : Int32} (ex : x = nI k) (ey : y = nI r) : ((10 : Int32) * x + y).toInt = ((10 * k + r : Nat) : Int) := by
  rw [ex, ey, nlit 10, nmul, nI_add, nI_toInt (by omega)]
section BM
variable {I : MI}
theorem m_best1 {J : MJ} {K : Int32 → Int32 → MI → MJ → Prop} (W : WF (I 12 2)) (L : List TK) (T : mTok (I 12 2) L) (k : Nat) (hk : k < mMany (I 12 2) (dn (I 12 2) 5)) (s0 : Int × Int) (x1 x2 : Int32) (J1 : MJ) (h1 : x1.toInt = s0.1) (h2 : x2.toInt = s0.2) (hJ : sJ2 J J1)
    (h : ∀ (x1 x2 : Int32) (J2 : MJ), x1.toInt = (bp1 (I 12 2) L k (dn (I 12 2) 0) s0).1 → x2.toInt = (bp1 (I 12 2) L k (dn (I 12 2) 0) s0).2 → sJ2 J J2 → K x1 x2 I J2) : f_X8_bestPlay_L17 (nI k) K (dn (I 12 2) 0 + 1) x1 x2 0 I J1 := by
  have hp := wf_rows W
  have h8 : k < 8 := Nat.lt_of_lt_of_le hk (W.2.2.2 _ (wf_turn W)).1
  refine up_inv (fun m (s : Int32 × Int32 × MJ) j => f_X8_bestPlay_L17 (nI k) K m s.1 s.2.1 j I s.2.2) (fun i s => s.1.toInt = (bp1 (I 12 2) L k i s0).1 ∧ s.2.1.toInt = (bp1 (I 12 2) L k i s0).2 ∧ sJ2 J s.2.2) (dn (I 12 2) 0) (fun m s hs => ?_) (fun m s r hr hs ih => ?_) (x1, x2, J1) ⟨h1, h2, hJ⟩
  · show f_X8_bestPlay_B17 _ _ _ _ _ _ I s.2.2
    exact ⟨vin 0 _ (by decide) (by decide) rfl, q_t (by rw [c0 W]; exact Int32.le_refl _) (h _ _ _ hs.1 hs.2.1 hs.2.2)⟩
  · show f_X8_bestPlay_B17 _ _ _ _ _ _ I s.2.2
    obtain ⟨y1, y2, J2⟩ := s
    obtain ⟨g1, g2, g3⟩ := hs
    have hl := mRef_lt (I 12 2) k r
    refine ⟨vin 0 _ (by decide) (by decide) rfl, q_f (by rw [c0 W]; exact nge hr (by omega)) (m_refusal W k r rfl rfl hk (by omega) (q_eq (mRef (I 12 2) k r) 0 (by omega) (by decide) rfl rfl (fun q => ?_) (fun q z ez => ?_)))⟩
    · refine m_rankOf W L T k r rfl rfl hk (by omega) (mRef_fit q) (fun v J3 hJ3 hv => ?_)
      have g3' : sJ2 J J3 := fun b r q => (hJ3 b r q).trans (g3 b r q)
      refine ⟨fun q1 x ex z ez => ih (x, v, J3) z ⟨?_, ?_, g3'⟩ (by rw [ez, nI_1]), fun q1 => ⟨fun q2 x ex z ez => ih (x, v, J3) z ⟨?_, ?_, g3'⟩ (by rw [ez, nI_1]), fun q2 z ez => ih (y1, y2, J3) z ⟨?_, ?_, g3'⟩ (by rw [ez, nI_1])⟩⟩
      · show x.toInt = (bpS _ L k r _).1
        rw [bpS, if_pos q, if_pos (Or.inl (g1.symm.trans ((m1_iff _).mp q1))), ex, p10 h8 (by omega) rfl rfl]
      · show v.toInt = (bpS _ L k r _).2
        rw [bpS, if_pos q, if_pos (Or.inl (g1.symm.trans ((m1_iff _).mp q1))), hv]
      · show x.toInt = (bpS _ L k r _).1
        rw [bpS, if_pos q, if_pos (Or.inr (by rw [← g2, ← hv]; exact Int32.lt_iff_toInt_lt.mp q2)), ex, p10 h8 (by omega) rfl rfl]
      · show v.toInt = (bpS _ L k r _).2
        rw [bpS, if_pos q, if_pos (Or.inr (by rw [← g2, ← hv]; exact Int32.lt_iff_toInt_lt.mp q2)), hv]
      · show y1.toInt = (bpS _ L k r _).1
        rw [bpS, if_pos q, if_neg (fun z => z.elim (fun z => q1 ((m1_iff _).mpr (g1.trans z))) (fun z => q2 (Int32.lt_iff_toInt_lt.mpr (by rw [hv, show y2.toInt = _ from g2]; exact z))))]
        exact g1
      · show y2.toInt = (bpS _ L k r _).2
        rw [bpS, if_pos q, if_neg (fun z => z.elim (fun z => q1 ((m1_iff _).mpr (g1.trans z))) (fun z => q2 (Int32.lt_iff_toInt_lt.mpr (by rw [hv, show y2.toInt = _ from g2]; exact z))))]
        exact g2
    · refine ih (y1, y2, J2) z ⟨?_, ?_, g3⟩ (by rw [ez, nI_1])
      · show y1.toInt = (bpS _ L k r _).1
        rw [bpS, if_neg q]; exact g1
      · show y2.toInt = (bpS _ L k r _).2
        rw [bpS, if_neg q]; exact g2
theorem m_bestPlay {J : MJ} {Q : Int32 → MI → MJ → Prop} (W : WF (I 12 2)) (L : List TK) (T : mTok (I 12 2) L) (h : ∀ (v : Int32) (J2 : MJ), sJ2 J J2 → v.toInt = mBest (I 12 2) L → Q v I J2) : f_X8_bestPlay I J Q := by
  have hm := (W.2.2.2 _ (wf_turn W)).1
  refine ⟨mMany (I 12 2) (dn (I 12 2) 5) + 1, up_inv (fun m (s : Int32 × Int32 × MJ) j => f_X8_bestPlay_L6 _ m s.1 s.2.1 j I s.2.2) (fun i s => s.1.toInt = (bp2 (I 12 2) L i).1 ∧ s.2.1.toInt = (bp2 (I 12 2) L i).2 ∧ sJ2 J s.2.2) (mMany (I 12 2) (dn (I 12 2) 5)) (fun m s hs => ?_) (fun m s k hk hs ih => ?_) (-1, 0, J) ⟨rfl, rfl, sJ2.rfl⟩⟩
  · show f_X8_bestPlay_B6 _ _ _ _ _ I s.2.2
    exact m_handNow W (q_t (Int32.le_refl _) (h _ _ hs.2.2 hs.1))
  · show f_X8_bestPlay_B6 _ _ _ _ _ I s.2.2
    refine m_handNow W (q_f (nge hk (by omega)) ⟨dn (I 12 2) 0 + 1, m_best1 W L T k hk (bp2 (I 12 2) L k) _ _ _ hs.1 hs.2.1 hs.2.2 (fun x1 x2 J2 g1 g2 g3 z ez => ih (x1, x2, J2) z ⟨g1, g2, g3⟩ (by rw [ez, nI_1]))⟩)
end BM
section BG
variable {J : MJ} {b : Nat} {d : Nat → Int32}
theorem g_best1 {I : MI} {K : Int32 → Int32 → MI → MJ → Prop} (W : WF d) (C : RC I J b d) (L : List TK) (T : mTok d L) (G : gTok I b L) (k : Nat) (hk : k < mMany d (dn d 5)) (s0 : Int × Int) (x1 x2 : Int32) (I1 : MI) (h1 : x1.toInt = s0.1) (h2 : x2.toInt = s0.2) (hI : sI2 b I I1)
    (h : ∀ (x1 x2 : Int32) (I2 : MI), x1.toInt = (bp1 d L k (dn d 0) s0).1 → x2.toInt = (bp1 d L k (dn d 0) s0).2 → sI2 b I I2 → K x1 x2 I2 J) : f_X1_bestPlay_L22 b (nI k) K (dn d 0 + 1) x1 x2 0 I1 J := by
  have hp := wf_rows W
  have h8 : k < 8 := Nat.lt_of_lt_of_le hk (W.2.2.2 _ (wf_turn W)).1
  refine up_inv (fun m (s : Int32 × Int32 × MI) j => f_X1_bestPlay_L22 b (nI k) K m s.1 s.2.1 j s.2.2 J) (fun i s => s.1.toInt = (bp1 d L k i s0).1 ∧ s.2.1.toInt = (bp1 d L k i s0).2 ∧ sI2 b I s.2.2) (dn d 0) (fun m s hs => ?_) (fun m s r hr hs ih => ?_) (x1, x2, I1) ⟨h1, h2, hI⟩
  · show f_X1_bestPlay_B22 _ _ _ _ _ _ _ s.2.2 J
    exact q_t (by rw [e_rows W (RC_keep C hs.2.2)]; exact Int32.le_refl _) (h _ _ _ hs.1 hs.2.1 hs.2.2)
  · show f_X1_bestPlay_B22 _ _ _ _ _ _ _ s.2.2 J
    obtain ⟨y1, y2, I2⟩ := s
    obtain ⟨g1, g2, g3⟩ := hs
    have C2 := RC_keep C g3
    have hl := mRef_lt d k r
    refine q_f (by rw [e_rows W C2]; exact nge hr (by omega)) (g_obstacleNow W C2 k r rfl rfl hk hr (q_eq (mRef d k r) 0 (by omega) (by decide) rfl rfl (fun q => ?_) (fun q z ez => ?_)))
    · refine g_rankOf W C2 L T (gTok_keep G g3) k r rfl rfl hk hr (mRef_fit q) (fun v I3 hI3 hv => ?_)
      have g3' : sI2 b I I3 := g3.trans hI3
      refine ⟨fun q1 x ex z ez => ih (x, v, I3) z ⟨?_, ?_, g3'⟩ (by rw [ez, nI_1]), fun q1 => ⟨fun q2 z ez => ih (y1, y2, I3) z ⟨?_, ?_, g3'⟩ (by rw [ez, nI_1]), fun q2 x ex z ez => ih (x, v, I3) z ⟨?_, ?_, g3'⟩ (by rw [ez, nI_1])⟩⟩
      · show x.toInt = (bpS _ L k r _).1
        rw [bpS, if_pos q, if_pos (Or.inl (g1.symm.trans ((m1_iff _).mp q1))), ex, p10 h8 (by omega) rfl rfl]
      · show v.toInt = (bpS _ L k r _).2
        rw [bpS, if_pos q, if_pos (Or.inl (g1.symm.trans ((m1_iff _).mp q1))), hv]
      · show y1.toInt = (bpS _ L k r _).1
        rw [bpS, if_pos q, if_neg (fun z => z.elim (fun z => q1 ((m1_iff _).mpr (g1.trans z))) (fun z => absurd (Int32.le_iff_toInt_le.mp q2) (by rw [hv, show y2.toInt = _ from g2]; omega)))]
        exact g1
      · show y2.toInt = (bpS _ L k r _).2
        rw [bpS, if_pos q, if_neg (fun z => z.elim (fun z => q1 ((m1_iff _).mpr (g1.trans z))) (fun z => absurd (Int32.le_iff_toInt_le.mp q2) (by rw [hv, show y2.toInt = _ from g2]; omega)))]
        exact g2
      · show x.toInt = (bpS _ L k r _).1
        rw [bpS, if_pos q, if_pos (Or.inr (by rw [← g2, ← hv]; exact Int.not_le.mp (fun z => q2 (Int32.le_iff_toInt_le.mpr z)))), ex, p10 h8 (by omega) rfl rfl]
      · show v.toInt = (bpS _ L k r _).2
        rw [bpS, if_pos q, if_pos (Or.inr (by rw [← g2, ← hv]; exact Int.not_le.mp (fun z => q2 (Int32.le_iff_toInt_le.mpr z)))), hv]
    · refine ih (y1, y2, I2) z ⟨?_, ?_, g3⟩ (by rw [ez, nI_1])
      · show y1.toInt = (bpS _ L k r _).1
        rw [bpS, if_neg q]; exact g1
      · show y2.toInt = (bpS _ L k r _).2
        rw [bpS, if_neg q]; exact g2
theorem g_bestPlay {I : MI} {Q : Int32 → MI → MJ → Prop} (W : WF d) (C : RC I J b d) (L : List TK) (T : mTok d L) (G : gTok I b L) (h : ∀ (v : Int32) (I2 : MI), sI2 b I I2 → v.toInt = mBest d L → Q v I2 J) : f_X1_bestPlay b I J Q := by
  have hm := (W.2.2.2 _ (wf_turn W)).1
  have hq := wf_turn W
  refine ⟨mMany d (dn d 5) + 1, up_inv (fun m (s : Int32 × Int32 × MI) j => f_X1_bestPlay_L6 b _ m s.1 s.2.1 j s.2.2 J) (fun i s => s.1.toInt = (bp2 d L i).1 ∧ s.2.1.toInt = (bp2 d L i).2 ∧ sI2 b I s.2.2) (mMany d (dn d 5)) (fun m s hs => ?_) (fun m s k hk hs ih => ?_) (-1, 0, I) ⟨rfl, rfl, sI2.rfl⟩⟩
  · show f_X1_bestPlay_B6 _ _ _ _ _ _ s.2.2 J
    have C2 := RC_keep C hs.2.2
    refine ⟨vin _ 4 hq (by decide) (e_turn W C2), q_t ?_ (h _ _ hs.2.2 hs.1)⟩
    rw [cln (by omega) (e_turn W C2), e_many W C2 (wf_tp W)]
    exact Int32.le_refl _
  · show f_X1_bestPlay_B6 _ _ _ _ _ _ s.2.2 J
    have C2 := RC_keep C hs.2.2
    refine ⟨vin _ 4 hq (by decide) (e_turn W C2), q_f ?_ ⟨dn d 0 + 1, g_best1 W C L T G k hk (bp2 d L k) _ _ _ hs.1 hs.2.1 hs.2.2 (fun x1 x2 I2 g1 g2 g3 z ez => ih (x1, x2, I2) z ⟨g1, g2, g3⟩ (by rw [ez, nI_1]))⟩⟩
    rw [cln (by omega) (e_turn W C2), e_many W C2 (wf_tp W)]
    exact nge hk (by omega)
end BG
