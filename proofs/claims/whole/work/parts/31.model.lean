/-! THE MODEL'S READS: words, rows, plays -/
section MP
variable {I : MI} {J : MJ}
theorem wrd_hand {d : Nat → Int32} (W : WF d) {p k : Nat} (hp : p < 4) (hk : k < mMany d p) : wrd d (wA p k + 1) (mLen d p k) := by
  have h8 : k < 8 := Nat.lt_of_lt_of_le hk (W.2.2.2 p hp).1
  obtain ⟨⟨h1, h2⟩, h3⟩ := (W.2.2.2 p hp).2 k hk
  refine ⟨h2, by show 306 + 74 * p + 2 + 9 * k + 1 + mLen d p k ≤ 602; omega, fun j hj => ⟨?_, h3 j hj⟩⟩
  have := wf_c W (okc_pl hp (k := 2 + 9 * k + 1 + j) (by omega) (by omega))
  rw [show pA p + (2 + 9 * k + 1 + j) = wA p k + 1 + j by show 306 + 74 * p + (2 + 9 * k + 1 + j) = 306 + 74 * p + 2 + 9 * k + 1 + j; omega] at this
  exact this
theorem wrd_last {d : Nat → Int32} (W : WF d) {r : Nat} (hr : r < 6) : wrd d (mLat d r) (mLst d r) := by
  obtain ⟨h1, h2, h3, h4, h5, h6, h7, h8, h9⟩ := W.2.2.1 r hr
  refine ⟨h4, by show 36 + 45 * r + 5 + mUse d r - mLst d r + mLst d r ≤ 602; omega, fun j hj => ?_⟩
  have e : mLat d r + j = rA r + 5 + (mUse d r - mLst d r + j) := by show 36 + 45 * r + 5 + mUse d r - mLst d r + j = 36 + 45 * r + 5 + (mUse d r - mLst d r + j); omega
  rw [e]
  refine ⟨?_, h8 _ (by omega)⟩
  have := wf_c W (okc_row hr (k := 5 + (mUse d r - mLst d r + j)) (by omega) (by omega))
  rw [show rA r + (5 + (mUse d r - mLst d r + j)) = rA r + 5 + (mUse d r - mLst d r + j) by omega] at this
  exact this
/-- the same letters, from place k on -/
def smF (d : Nat → Int32) (a b : Nat) : Nat → Nat → Bool
  | 0, _ => true
  | f + 1, k => decide (dn d (a + k) = dn d (b + k)) && smF d a b f (k + 1)
def smw (d : Nat → Int32) (a la b lb : Nat) : Bool := decide (la = lb) && smF d a b la 0
theorem m_sameL {x1 x2 x3 : Int32} {K : Int32 → MI → MJ → Prop} (a la b : Nat) (e1 : x1 = nI a) (e2 : x2 = nI la) (e3 : x3 = nI b) (wa : wrd (I 12 2) a la) (wb : wrd (I 12 2) b la) :
    ∀ (f k : Nat) (x : Int32), k + f = la → x = nI k → K (if smF (I 12 2) a b f k then 1 else 0) I J → f_X8_areSame_L16 x1 x2 x3 K (f + 2) 1 x I J := by
  obtain ⟨hla, hab, hca⟩ := wa
  obtain ⟨-, hbb, hcb⟩ := wb
  intro f
  induction f with
  | zero =>
    intro k x hk ex h
    show f_X8_areSame_B16 x1 x2 x3 K _ 1 x I J
    exact q_t (by rw [e2, ex]; exact nI_le (by omega) (by omega)) h
  | succ f ih =>
    intro k x hk ex h
    show f_X8_areSame_B16 x1 x2 x3 K (f_X8_areSame_L16 x1 x2 x3 K (f + 2)) 1 x I J
    have ea : x1 + x = nI (a + k) := by rw [e1, ex, nI_add]
    have eb : x3 + x = nI (b + k) := by rw [e3, ex, nI_add]
    have ca := hca k (by omega)
    have cb := hcb k (by omega)
    refine q_f (by rw [e2, ex]; exact nI_ge (by omega) (by omega)) (q_f (by decide) ⟨vin _ _ (by omega) (by decide) ea, vin _ _ (by omega) (by decide) eb, ?_⟩)
    rw [cln (by omega) ea, cln (by omega) eb]
    unfold smF at h
    refine q_eq _ _ (by omega) (by omega) ca.1 cb.1 (fun q z ez => ?_) (fun q z ez => ?_)
    · rw [decide_eq_true q, Bool.true_and] at h
      exact ih (k + 1) z (by omega) (by rw [ez, ex]; exact nI_1 k) h
    · rw [decide_eq_false q, Bool.false_and] at h
      show f_X8_areSame_B16 x1 x2 x3 K _ 0 z I J
      exact ⟨fun _ => h, fun _ => q_t rfl h⟩
theorem m_areSame {x1 x2 x3 x4 : Int32} {Q : Int32 → MI → MJ → Prop} (a la b lb : Nat) (e1 : x1 = nI a) (e2 : x2 = nI la) (e3 : x3 = nI b) (e4 : x4 = nI lb) (wa : wrd (I 12 2) a la) (wb : wrd (I 12 2) b lb) (h : Q (if smw (I 12 2) a la b lb then 1 else 0) I J) : f_X8_areSame x1 x2 x3 x4 I J Q := by
  unfold smw at h
  refine q_eq la lb (by have := wa.1; omega) (by have := wb.1; omega) e2 e4 (fun q => ?_) (fun q => ?_)
  · subst q
    rw [decide_eq_true rfl, Bool.true_and] at h
    exact ⟨la + 2, m_sameL a la b e1 e2 e3 wa wb la 0 0 (Nat.zero_add _) rfl ⟨bo_I _, h⟩⟩
  · rw [decide_eq_false q, Bool.false_and] at h
    refine ⟨1, ?_⟩
    show f_X8_areSame_B16 x1 x2 x3 _ _ 0 0 I J
    exact ⟨fun _ => ⟨bo0, h⟩, fun _ => q_t rfl ⟨bo0, h⟩⟩
theorem m_rowAt {x1 : Int32} {Q : Int32 → MI → MJ → Prop} (r : Nat) (e1 : x1 = nI r) (h : Q (nI (rA r)) I J) : f_X8_rowAt x1 I J Q := by
  have e0 : (36 : Int32) + (45 : Int32) * x1 = nI (rA r) := by rw [e1, nlit 36, nlit 45, nmul, nI_add]
  show Q _ I J
  rw [e0]
  exact h
theorem m_playerAt {x1 : Int32} {Q : Int32 → MI → MJ → Prop} (p : Nat) (e1 : x1 = nI p) (h : Q (nI (pA p)) I J) : f_X8_playerAt x1 I J Q := by
  have e0 : (306 : Int32) + (74 : Int32) * x1 = nI (pA p) := by rw [e1, nlit 306, nlit 74, nmul, nI_add]
  show Q _ I J
  rw [e0]
  exact h
theorem m_lastAt {x1 : Int32} {Q : Int32 → MI → MJ → Prop} (W : WF (I 12 2)) (r : Nat) (e1 : x1 = nI r) (hr : r < 6) (h : Q (nI (mLat (I 12 2) r)) I J) : f_X8_lastAt x1 I J Q := by
  have w := W.2.2.1 r hr
  refine m_rowAt r e1 ?_
  refine m_ofRow r 1 e1 rfl hr (by decide) ?_
  refine m_ofRow r 4 e1 rfl hr (by decide) ?_
  have c1 : I 12 2 (rA r + 1) = nI (mUse (I 12 2) r) := wf_c W (okc_row hr (k := 1) (by decide) (by decide))
  have c4 : I 12 2 (rA r + 4) = nI (mLst (I 12 2) r) := wf_c W (okc_row hr (k := 4) (by decide) (by decide))
  rw [c1, c4]
  unfold mLat at h
  have hle := w.2.2.2.2.1
  generalize mUse (I 12 2) r = u at h hle ⊢
  generalize mLst (I 12 2) r = v at h hle ⊢
  generalize rA r = a at h ⊢
  have e : ((nI a + (5 : Int32)) + nI u) - nI v = nI (a + 5 + u - v) := by rw [nlit 5, nI_add, nI_add, nsub (Nat.le_trans hle (Nat.le_add_left _ _))]
  rw [e]
  exact h
/-- a hand's word beside a row's last one -/
def mRh (d : Nat → Int32) (p k r : Nat) : Nat := rh d (wA p k + 1) (mLen d p k) (mLat d r) (mLst d r)
def mSame (d : Nat → Int32) (p k r : Nat) : Bool := smw d (wA p k + 1) (mLen d p k) (mLat d r) (mLst d r)
theorem mRh_le (d : Nat → Int32) (p k r : Nat) : mRh d p k r ≤ mLen d p k ∧ mRh d p k r ≤ mLst d r := by
  have := rh_le d (wA p k + 1) (mLen d p k) (mLat d r) (mLst d r)
  unfold mRh
  omega
theorem w_len {d : Nat → Int32} (W : WF d) {p k : Nat} (hp : p < 4) (hk : k < 8) : d (wA p k) = nI (mLen d p k) := by
  have := wf_c W (okc_pl hp (k := 2 + 9 * k) (by omega) (by omega))
  rw [show pA p + (2 + 9 * k) = wA p k by show 306 + 74 * p + (2 + 9 * k) = 306 + 74 * p + 2 + 9 * k; omega] at this
  exact this
theorem m_rhymeWith {x1 x2 x3 : Int32} {Q : Int32 → MI → MJ → Prop} (W : WF (I 12 2)) (p k r : Nat) (e1 : x1 = nI p) (e2 : x2 = nI k) (e3 : x3 = nI r) (hp : p < 4) (hk : k < mMany (I 12 2) p) (hr : r < 6) (h : Q (nI (mRh (I 12 2) p k r)) I J) : f_X8_rhymeWith x1 x2 x3 I J Q := by
  have h8 : k < 8 := Nat.lt_of_lt_of_le hk (W.2.2.2 p hp).1
  refine m_wordAt p k e1 e2 (m_lengthOf p k e1 e2 hp h8 (m_lastAt W r e3 hr (m_ofRow r 4 e3 rfl hr (by decide) ?_)))
  exact m_rhymeOf W (wA p k + 1) (mLen (I 12 2) p k) (mLat (I 12 2) r) (mLst (I 12 2) r) (nI_1 _) (w_len W hp h8) rfl (wf_c W (okc_row hr (k := 4) (by decide) (by decide))) (wrd_hand W hp hk) (wrd_last W hr) h
theorem m_isSameAs {x1 x2 x3 : Int32} {Q : Int32 → MI → MJ → Prop} (W : WF (I 12 2)) (p k r : Nat) (e1 : x1 = nI p) (e2 : x2 = nI k) (e3 : x3 = nI r) (hp : p < 4) (hk : k < mMany (I 12 2) p) (hr : r < 6) (h : Q (if mSame (I 12 2) p k r then 1 else 0) I J) : f_X8_isSameAs x1 x2 x3 I J Q := by
  have h8 : k < 8 := Nat.lt_of_lt_of_le hk (W.2.2.2 p hp).1
  refine m_wordAt p k e1 e2 (m_lengthOf p k e1 e2 hp h8 (m_lastAt W r e3 hr (m_ofRow r 4 e3 rfl hr (by decide) ?_)))
  exact m_areSame (wA p k + 1) (mLen (I 12 2) p k) (mLat (I 12 2) r) (mLst (I 12 2) r) (nI_1 _) (w_len W hp h8) rfl (wf_c W (okc_row hr (k := 4) (by decide) (by decide))) (wrd_hand W hp hk) (wrd_last W hr) ⟨bo_I _, h⟩
def mHin (d : Nat → Int32) (p k r : Nat) : Nat := if mLen d p k ≤ mFree d r then (if mWds d r = 0 then 0 else if mSame d p k r then 3 else if dn d 2 ≤ mRh d p k r then 0 else 4) else 2
theorem m_hinders {x1 x2 x3 : Int32} {Q : Int32 → MI → MJ → Prop} (W : WF (I 12 2)) (p k r : Nat) (e1 : x1 = nI p) (e2 : x2 = nI k) (e3 : x3 = nI r) (hp : p < 4) (hk : k < mMany (I 12 2) p) (hr : r < 6) (h : Q (nI (mHin (I 12 2) p k r)) I J) : f_X8_hinders x1 x2 x3 I J Q := by
  have h8 : k < 8 := Nat.lt_of_lt_of_le hk (W.2.2.2 p hp).1
  have hl := ((W.2.2.2 p hp).2 k hk).1
  have w := W.2.2.1 r hr
  have hR := (mRh_le (I 12 2) p k r).1
  have b2 : dn (I 12 2) 2 ≤ 4 := W.2.1.2.2.1.2
  refine m_lengthOf p k e1 e2 hp h8 (m_free W r e3 hr ?_)
  unfold mHin at h
  refine q_le (mLen (I 12 2) p k) (mFree (I 12 2) r) (by omega) (by show _ - _ < _; omega) (w_len W hp h8) rfl (fun q => ?_) (fun q => ?_)
  · rw [if_pos q] at h
    refine m_ofRow r 2 e3 rfl hr (by decide) (q_eq (mWds (I 12 2) r) 0 (by omega) (by decide) (wf_c W (okc_row hr (k := 2) (by decide) (by decide))) rfl (fun q2 => ?_) (fun q2 => ?_))
    · rw [if_pos q2] at h; exact h
    · rw [if_neg q2] at h
      refine m_isSameAs W p k r e1 e2 e3 hp hk hr ?_
      by_cases q3 : mSame (I 12 2) p k r = true
      · rw [if_pos q3] at h
        rw [if_pos q3]
        exact q_f (by decide) h
      · rw [if_neg q3] at h
        rw [if_neg q3]
        refine q_t rfl (m_rhymeWith W p k r e1 e2 e3 hp hk hr ⟨vin 2 _ (by decide) (by decide) rfl, q_le (dn (I 12 2) 2) (mRh (I 12 2) p k r) (by omega) (by omega) (wf_c W (okc_lo (i := 2) (by decide))) rfl (fun q4 => ?_) (fun q4 => ?_)⟩)
        · rw [if_pos q4] at h; exact h
        · rw [if_neg (by omega)] at h; exact h
  · rw [if_neg (by omega)] at h
    exact h
theorem wf_turn {d : Nat → Int32} (W : WF d) : dn d 5 < 4 := by
  have h1 := W.2.1.2.1.2
  have h2 := W.2.1.2.2.2.2.2.1
  omega
def mRef (d : Nat → Int32) (k r : Nat) : Nat := if dn d 6 = 1 then 1 else mHin d (dn d 5) k r
theorem m_refusal {x1 x2 : Int32} {Q : Int32 → MI → MJ → Prop} (W : WF (I 12 2)) (k r : Nat) (e1 : x1 = nI k) (e2 : x2 = nI r) (hk : k < mMany (I 12 2) (dn (I 12 2) 5)) (hr : r < 6) (h : Q (nI (mRef (I 12 2) k r)) I J) : f_X8_refusal x1 x2 I J Q := by
  unfold mRef at h
  have b6 : dn (I 12 2) 6 ≤ 1 := W.2.1.2.2.2.2.2.2.1
  refine ⟨vin 6 _ (by decide) (by decide) rfl, q_eq (dn (I 12 2) 6) 1 (by omega) (by decide) (wf_c W (okc_lo (i := 6) (by decide))) rfl (fun q => ?_) (fun q => ⟨vin 5 _ (by decide) (by decide) rfl, ?_⟩)⟩
  · rw [if_pos q] at h; exact h
  · rw [if_neg q] at h
    exact m_hinders W (dn (I 12 2) 5) k r (wf_c W (okc_lo (i := 5) (by decide))) e1 e2 (wf_turn W) hk hr h
def mRht (d : Nat → Int32) (p k r : Nat) : Nat := if mWds d r = 0 then 0 else mRh d p k r
theorem mRht_le (d : Nat → Int32) (p k r : Nat) : mRht d p k r ≤ mLen d p k := by
  have := (mRh_le d p k r).1
  unfold mRht
  split <;> omega
theorem m_rhymeThere {x1 x2 x3 : Int32} {Q : Int32 → MI → MJ → Prop} (W : WF (I 12 2)) (p k r : Nat) (e1 : x1 = nI p) (e2 : x2 = nI k) (e3 : x3 = nI r) (hp : p < 4) (hk : k < mMany (I 12 2) p) (hr : r < 6) (h : Q (nI (mRht (I 12 2) p k r)) I J) : f_X8_rhymeThere x1 x2 x3 I J Q := by
  unfold mRht at h
  have w := W.2.2.1 r hr
  refine m_ofRow r 2 e3 rfl hr (by decide) (q_eq (mWds (I 12 2) r) 0 (by omega) (by decide) (wf_c W (okc_row hr (k := 2) (by decide) (by decide))) rfl (fun q2 => ?_) (fun q2 => ?_))
  · rw [if_pos q2] at h; exact h
  · rw [if_neg q2] at h
    exact m_rhymeWith W p k r e1 e2 e3 hp hk hr h
def mPts (d : Nat → Int32) (p k r : Nat) : Nat := mLen d p k + dn d 3 * mRht d p k r + (if mLen d p k = mFree d r then dn d 4 * (mWds d r + 1) else 0)
theorem m_pointsFor {x1 x2 x3 : Int32} {Q : Int32 → MI → MJ → Prop} (W : WF (I 12 2)) (p k r : Nat) (e1 : x1 = nI p) (e2 : x2 = nI k) (e3 : x3 = nI r) (hp : p < 4) (hk : k < mMany (I 12 2) p) (hr : r < 6) (h : Q (nI (mPts (I 12 2) p k r)) I J) : f_X8_pointsFor x1 x2 x3 I J Q := by
  have h8 : k < 8 := Nat.lt_of_lt_of_le hk (W.2.2.2 p hp).1
  have hl := ((W.2.2.2 p hp).2 k hk).1
  have w := W.2.2.1 r hr
  have c3 := wf_c W (okc_lo (i := 3) (by decide))
  have c4 := wf_c W (okc_lo (i := 4) (by decide))
  have cl := w_len W hp h8
  unfold mPts at h
  refine m_lengthOf p k e1 e2 hp h8 ⟨vin 3 _ (by decide) (by decide) rfl, m_rhymeThere W p k r e1 e2 e3 hp hk hr (m_free W r e3 hr ?_)⟩
  refine q_eq (mLen (I 12 2) p k) (mFree (I 12 2) r) (by omega) (by show _ - _ < _; omega) cl rfl (fun q => ?_) (fun q => ?_)
  · rw [if_pos q] at h
    refine ⟨vin 4 _ (by decide) (by decide) rfl, m_ofRow r 2 e3 rfl hr (by decide) ?_⟩
    have e : (I 12 2 (wA p k) + I 12 2 (3 : Int32).toNatClampNeg * nI (mRht (I 12 2) p k r)) + I 12 2 (4 : Int32).toNatClampNeg * (I 12 2 (rA r + 2) + (1 : Int32)) = nI (mLen (I 12 2) p k + dn (I 12 2) 3 * mRht (I 12 2) p k r + dn (I 12 2) 4 * (mWds (I 12 2) r + 1)) := by
      rw [cl, show ((3 : Int32).toNatClampNeg) = 3 from rfl, show ((4 : Int32).toNatClampNeg) = 4 from rfl, c3, c4, wf_c W (okc_row hr (k := 2) (by decide) (by decide)), nmul, nI_1, nmul, nI_add, nI_add]
    rw [e]
    exact h
  · rw [if_neg q] at h
    have e : (I 12 2 (wA p k) + I 12 2 (3 : Int32).toNatClampNeg * nI (mRht (I 12 2) p k r)) + (0 : Int32) = nI (mLen (I 12 2) p k + dn (I 12 2) 3 * mRht (I 12 2) p k r + 0) := by
      rw [cl, show ((3 : Int32).toNatClampNeg) = 3 from rfl, c3, nmul, nI_add, nlit 0, nI_add]
    rw [e]
    exact h
end MP
