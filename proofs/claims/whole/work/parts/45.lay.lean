/-! A PASS on the class' side; A WORD LAID on the model's -/
def dPass (d : Nat → Int32) : Nat → Int32 := if dn d 7 + 1 = dn d 1 then dEnd (upd d 7 (nI (dn d 7 + 1))) else dNext (upd d 7 (nI (dn d 7 + 1)))
theorem WF_7 {d : Nat → Int32} (W : WF d) (q : Nat) (hq : q ≤ dn d 1) : WF (upd d 7 (nI q)) :=
  WF_ch W (fun i c => upd_ot _ _ c.2.2.1) (dn d 5) (dn d 6) q ((upd_ot _ _ (by decide)).trans (wf_c W (okc_lo (by decide)))) (wf_tp W) ((upd_ot _ _ (by decide)).trans (wf_c W (okc_lo (by decide)))) W.2.1.2.2.2.2.2.2.1 (upd_at _ _ _) hq
theorem WF_pass {d : Nat → Int32} (W : WF d) (hq : dn d 7 < dn d 1) : WF (dPass d) := by
  unfold dPass
  split
  · exact WF_end (WF_7 W _ hq)
  · exact WF_next (WF_7 W _ hq)
theorem RC_7 {I : MI} {J : MJ} {d : Nat → Int32} {b : Nat} (W : WF d) (C : RC I J b d) (q : Nat) : RC (sI I b 0 10 (nI q)) J b (upd d 7 (nI q)) := by
  refine RC_ch W C (fun i c => upd_ot _ _ c.2.2.1) (fun r h0 _ => sI_ro _ _ _ _ _ h0) ?_ ?_ ?_ (fun p hp => ?_)
  · rw [sI_ot _ _ _ _ (by decide)]; exact C.1.2.2.2.2.2.1.trans (upd_ot _ _ (by decide)).symm
  · rw [sI_ot _ _ _ _ (by decide)]; exact C.1.2.2.2.2.2.2.1.trans (upd_ot _ _ (by decide)).symm
  · rw [sI_at]; exact (upd_at _ _ _).symm
  · rw [sI_ro _ _ _ _ _ (by decide)]; exact (C.2.2.2.1 p hp).2.1.trans (upd_ot _ _ (by show 306 + 74 * p ≠ 7; omega)).symm
theorem g_passTurn {I : MI} {J : MJ} {d : Nat → Int32} {b : Nat} {Q : MI → MJ → Prop} (W : WF d) (C : RC I J b d) (hq : dn d 7 < dn d 1) (h : ∀ I', RC I' J b (dPass d) → oB b I I' → Q I' J) : f_X1_passTurn b I J Q := by
  have h4 := W.2.1.2.1
  intro I1 e1
  have e1' : I1 = sI I b 0 10 (nI (dn d 7 + 1)) := by rw [e1, C.1.2.2.2.2.2.2.2, wf_c W (okc_lo (i := 7) (by decide)), nI_1]
  have W1 := WF_7 W (dn d 7 + 1) hq
  have C1 : RC I1 J b (upd d 7 (nI (dn d 7 + 1))) := by rw [e1']; exact RC_7 W C _
  have g1 : oB b I I1 := by rw [e1']; exact oB.put (Or.inl (Eq.refl _))
  have k1 : I1 b 1 4 = nI (dn d 1) := by rw [e1', sI_ro _ _ _ _ _ (by decide)]; exact e_pls W C
  have k2 : I1 b 0 10 = nI (dn d 7 + 1) := by rw [e1', sI_at]
  unfold dPass at h
  refine q_lt (dn d 7 + 1) (dn d 1) (by omega) (by omega) k2 k1 (fun q => ?_) (fun q => ?_)
  · rw [if_neg (by omega)] at h
    exact g_endTurn W1 C1 false rfl (fun I' C' g' => h I' C' (g1.trans g'))
  · rw [if_pos (by omega)] at h
    exact g_endTurn W1 C1 true rfl (fun I' C' g' => h I' C' (g1.trans g'))
/-- n cells copied from a to b -/
def cpy (d : Nat → Int32) (a b n : Nat) : Nat → Int32 := fun i => if b ≤ i ∧ i < b + n then d (a + (i - b)) else d i
theorem cpy_0 (d : Nat → Int32) (a b : Nat) : cpy d a b 0 = d := by
  funext i
  exact if_neg (by omega)
theorem cpy_s (d : Nat → Int32) (a b n : Nat) : upd (cpy d a b n) (b + n) (d (a + n)) = cpy d a b (n + 1) := by
  funext i
  by_cases q : i = b + n
  · subst q
    rw [upd_at]
    unfold cpy
    rw [if_pos (by omega), Nat.add_sub_cancel_left]
  · rw [upd_ot _ _ q]
    unfold cpy
    by_cases z : b ≤ i ∧ i < b + n
    · rw [if_pos z, if_pos (by omega)]
    · rw [if_neg z, if_neg (by omega)]
theorem cpy_out {d : Nat → Int32} {a b n i : Nat} (h : i < b ∨ b + n ≤ i) : cpy d a b n i = d i := if_neg (by omega)
theorem cpy_in {d : Nat → Int32} {a b n j : Nat} (h : j < n) : cpy d a b n (b + j) = d (a + j) := by
  unfold cpy
  rw [if_pos (by omega), Nat.add_sub_cancel_left]
/-- a word laid: its letters, its numbers, the hand without it -/
def lay1 (d : Nat → Int32) (k r : Nat) (n : Nat) : Nat → Int32 := cpy d (wA (dn d 5) k + 1) (rA r + 5 + mUse d r) n
def lay2 (d : Nat → Int32) (k r : Nat) : Nat → Int32 :=
  upd (upd (upd (upd (upd (upd (lay1 d k r (mLen d (dn d 5) k)) (rA r + 1) (nI (mUse d r + mLen d (dn d 5) k))) (rA r + 2) (nI (mWds d r + 1))) (rA r + 3) (nI (dn d 5))) (rA r + 4) (nI (mLen d (dn d 5) k))) (pA (dn d 5)) (d (pA (dn d 5)) + nI (mPts d (dn d 5) k r))) (pA (dn d 5) + 1) (nI (mMany d (dn d 5) - 1))
def lay3 (d : Nat → Int32) (k r n : Nat) : Nat → Int32 := cpy (lay2 d k r) (wA (dn d 5) k + 9) (wA (dn d 5) k) n
def lay4 (d : Nat → Int32) (k r : Nat) : Nat → Int32 := upd (lay3 d k r (9 * (mMany d (dn d 5) - 1 - k))) 7 0
def dLay (d : Nat → Int32) (k r : Nat) : Nat → Int32 := if sWords (lay4 d k r) = 0 then dEnd (lay4 d k r) else dNext (lay4 d k r)
section LM
variable {I : MI} {J : MJ}
theorem m_lay1 {K : MI → MJ → Prop} (W : WF (I 12 2)) (k r : Nat) {x1 x3 x5 x6 : Int32} (e1 : x1 = nI k) (e3 : x3 = nI (dn (I 12 2) 5)) (e5 : x5 = nI (mLen (I 12 2) (dn (I 12 2) 5) k)) (e6 : x6 = nI (rA r)) (hk : k < 8) (hr : r < 6) (hn : mLen (I 12 2) (dn (I 12 2) 5) k ≤ mFree (I 12 2) r)
    (h : K (rI I 12 2 (lay1 (I 12 2) k r (mLen (I 12 2) (dn (I 12 2) 5) k))) J) : f_X8_layNow_L33 x1 x3 x5 x6 K (mLen (I 12 2) (dn (I 12 2) 5) k + 1) 0 I J := by
  have h4 := wf_pls W
  have ht := wf_tp W
  have wr := W.2.2.1 r hr
  have hu : mUse (I 12 2) r + mLen (I 12 2) (dn (I 12 2) 5) k ≤ 40 := by
    have : mLen (I 12 2) (dn (I 12 2) 5) k ≤ mTil (I 12 2) r - mUse (I 12 2) r := hn
    omega
  refine up_inv (fun m (s : MI) j => f_X8_layNow_L33 x1 x3 x5 x6 K m j s J) (fun i s => s = rI I 12 2 (lay1 (I 12 2) k r i)) (mLen (I 12 2) (dn (I 12 2) 5) k) (fun m s hs => ?_) (fun m s i hi hs ih => ?_) I (by unfold lay1; rw [cpy_0]; exact (rI_id I 12 2).symm)
  · show f_X8_layNow_B33 _ _ _ _ _ _ _ s J
    exact q_t (by rw [e5]; exact Int32.le_refl _) (by rw [hs]; exact h)
  · show f_X8_layNow_B33 _ _ _ _ _ _ _ s J
    have hs2 : s 12 2 = lay1 (I 12 2) k r i := by rw [hs, rI_same]
    have q0 : x6 + 1 = nI (rA r + 1) := by rw [e6, nI_1]
    have q1 : s 12 2 (x6 + 1).toNatClampNeg = nI (mUse (I 12 2) r) := by
      rw [q0, nI_clamp (by show 36 + 45 * r + 1 < _; omega), hs2]
      exact (cpy_out (Or.inl (by omega))).trans (wf_c W (okc_row hr (k := 1) (by decide) (by decide)))
    have q2 : ((x6 + 5) + s 12 2 (x6 + 1).toNatClampNeg) + nI i = nI (rA r + 5 + mUse (I 12 2) r + i) := by rw [q1, e6, nlit 5, nI_add, nI_add, nI_add]
    have q3 : (nI (wA (dn (I 12 2) 5) k) + 1) + nI i = nI (wA (dn (I 12 2) 5) k + 1 + i) := by rw [nI_1, nI_add]
    refine q_f (by rw [e5]; exact nge hi (by omega)) ⟨vin (rA r + 1) _ (by show 36 + 45 * r + 1 < _; omega) (by decide) q0, m_wordAt (dn (I 12 2) 5) k e3 e1 ⟨vin (wA (dn (I 12 2) 5) k + 1 + i) _ (by show 306 + 74 * _ + 2 + 9 * k + 1 + i < _; omega) (by decide) q3, vin (rA r + 5 + mUse (I 12 2) r + i) _ (by show 36 + 45 * r + 5 + _ + i < _; omega) (by decide) q2, fun s2 es2 j ej => ih s2 j ?_ (by rw [ej, nI_1])⟩⟩
    rw [es2, q2, q3, nI_clamp (show rA r + 5 + mUse (I 12 2) r + i < 2 ^ 31 by show 36 + 45 * r + 5 + _ + i < _; omega), nI_clamp (show wA (dn (I 12 2) 5) k + 1 + i < 2 ^ 31 by show 306 + 74 * _ + 2 + 9 * k + 1 + i < _; omega)]
    have q4 : s 12 2 (wA (dn (I 12 2) 5) k + 1 + i) = I 12 2 (wA (dn (I 12 2) 5) k + 1 + i) := by
      rw [hs2]
      exact cpy_out (Or.inr (by show 36 + 45 * r + 5 + _ + i ≤ 306 + 74 * _ + 2 + 9 * k + 1 + i; omega))
    show rI s 12 2 (upd (s 12 2) (rA r + 5 + mUse (I 12 2) r + i) (s 12 2 (wA (dn (I 12 2) 5) k + 1 + i))) = _
    rw [q4, hs2, show upd (lay1 (I 12 2) k r i) (rA r + 5 + mUse (I 12 2) r + i) (I 12 2 (wA (dn (I 12 2) 5) k + 1 + i)) = lay1 (I 12 2) k r (i + 1) from cpy_s _ _ _ _, hs, rI_rI]
/-- the hand moves up -/
theorem m_lay3 {K : MI → MJ → Prop} {d : Nat → Int32} (p k c : Nat) {x3 x7 : Int32} (e3 : x3 = nI p) (e7 : x7 = nI (wA p k)) (hp : p < 4) (hk : k ≤ c) (hc : c < 8) (hd : I 12 2 = d) (em : d (pA p + 1) = nI c) (h : K (rI I 12 2 (cpy d (wA p k + 9) (wA p k) (9 * (c - k)))) J) : f_X8_layNow_L169 x3 K (wA p k + 9 * (c - k) - wA p k + 1) x7 I J := by
  rw [e7]
  refine up_invF (fun m (s : MI) j => f_X8_layNow_L169 x3 K m j s J) (fun i s => s = rI I 12 2 (cpy d (wA p k + 9) (wA p k) (i - wA p k))) (wA p k) (wA p k + 9 * (c - k)) (by omega) (fun m s hs => ?_) (fun m s i hi0 hi hs ih => ?_) I (by rw [Nat.sub_self, cpy_0, ← hd]; exact (rI_id I 12 2).symm)
  · show f_X8_layNow_B169 _ _ _ _ s J
    have hs2 : s 12 2 = cpy d (wA p k + 9) (wA p k) (wA p k + 9 * (c - k) - wA p k) := by rw [hs, rI_same]
    have q1 : s 12 2 (pA p + 1) = nI c := by
      rw [hs2]
      exact (cpy_out (Or.inl (by show 306 + 74 * p + 1 < 306 + 74 * p + 2 + 9 * k; omega))).trans em
    refine m_ofPlayer p 1 e3 rfl hp (by decide) (m_wordAt p c e3 q1 (q_t ?_ ?_))
    · rw [show wA p k + 9 * (c - k) = wA p c by show 306 + 74 * p + 2 + 9 * k + 9 * (c - k) = 306 + 74 * p + 2 + 9 * c; omega]
      exact Int32.le_refl _
    · rw [hs, Nat.add_sub_cancel_left]; exact h
  · show f_X8_layNow_B169 _ _ _ _ s J
    have hs2 : s 12 2 = cpy d (wA p k + 9) (wA p k) (i - wA p k) := by rw [hs, rI_same]
    have q1 : s 12 2 (pA p + 1) = nI c := by
      rw [hs2]
      exact (cpy_out (Or.inl (by show 306 + 74 * p + 1 < 306 + 74 * p + 2 + 9 * k; omega))).trans em
    have hiw : i < wA p c := by
      have : wA p k + 9 * (c - k) = wA p c := by show 306 + 74 * p + 2 + 9 * k + 9 * (c - k) = 306 + 74 * p + 2 + 9 * c; omega
      omega
    have hwc : wA p c < 1000 := by show 306 + 74 * p + 2 + 9 * c < 1000; omega
    have q2 : nI i + 9 = nI (i + 9) := by rw [nlit 9, nI_add]
    refine m_ofPlayer p 1 e3 rfl hp (by decide) (m_wordAt p c e3 q1 (q_f (nge hiw (by omega)) ⟨vin (i + 9) _ (by omega) (by decide) q2, vin i _ (by omega) (by decide) rfl, fun s2 es2 j ej => ih s2 j ?_ (by rw [ej, nI_1])⟩))
    rw [es2, q2, nI_clamp (show i + 9 < 2 ^ 31 by omega), nI_clamp (show i < 2 ^ 31 by omega)]
    have q4 : s 12 2 (i + 9) = d (wA p k + 9 + (i - wA p k)) := by
      rw [hs2, cpy_out (Or.inr (by omega))]
      congr 1
      omega
    show rI s 12 2 (upd (s 12 2) i (s 12 2 (i + 9))) = _
    have q5 := cpy_s d (wA p k + 9) (wA p k) (i - wA p k)
    rw [show wA p k + (i - wA p k) = i by omega, show i - wA p k + 1 = i + 1 - wA p k by omega] at q5
    rw [q4, hs2, q5, hs, rI_rI]
end LM
