/-! WHAT IS TOLD, on both sides -/
theorem bt_mask : ∀ n, n < 9 → ((1 : Int32) <<< (nI n &&& 31)) - 1 = nI (2 ^ n - 1) := by decide +kernel
theorem bt_at : ∀ m, m < 256 → ∀ k, k < 8 → ((nI m >>> (nI k &&& 31)) &&& (1 : Int32)) = nI (if m.testBit k then 1 else 0) := by decide +kernel
theorem bt_up : ∀ n, n < 9 → ∀ k, k < 8 → (2 ^ n - 1).testBit k = decide (k < n) := by decide +kernel
theorem sumN_cut (f : Nat → Nat) (n : Nat) : ∀ m, sumN (fun k => if k < n then f k else 0) m = sumN f (min n m)
  | 0 => by rw [Nat.min_zero]; rfl
  | m + 1 => by
    show sumN _ m + (if m < n then f m else 0) = _
    rw [sumN_cut f n m]
    by_cases q : m < n
    · rw [if_pos q, Nat.min_eq_right (by omega), Nat.min_eq_right (by omega)]; rfl
    · rw [if_neg q, Nat.min_eq_left (by omega), Nat.min_eq_left (by omega)]; rfl
theorem sumN_congr {f g : Nat → Nat} : ∀ n, (∀ k, k < n → f k = g k) → sumN f n = sumN g n
  | 0, _ => rfl
  | n + 1, h => by
    show sumN f n + f n = sumN g n + g n
    rw [sumN_congr n (fun k hk => h k (by omega)), h n (by omega)]
def sBit (d : Nat → Int32) (p m : Nat) : Nat := sumN (fun k => if m.testBit k then mLen d p k else 0) 8
def sLet (d : Nat → Int32) (p : Nat) : Nat := sumN (fun k => mLen d p k) (mMany d p)
theorem sBit_let {d : Nat → Int32} {p : Nat} (h : mMany d p ≤ 8) : sBit d p (2 ^ mMany d p - 1) = sLet d p := by
  unfold sBit sLet
  rw [sumN_congr (g := fun k => if k < mMany d p then mLen d p k else 0) 8 (fun k hk => by simp only [bt_up _ (show mMany d p < 9 by omega) k hk, decide_eq_true_eq]), sumN_cut, Nat.min_eq_left h]
def mState (d : Nat → Int32) (w : Nat) : Int32 := if w = 8 then nI (sLaid d) else if w = 9 then nI (sFull d) else if w = 10 then nI (sPlays d) else if w = 11 then nI (sWords d) else d w
def mRowN (d : Nat → Int32) (r w : Nat) : Int32 := if w = 0 then d (rA r) else if w = 1 then nI (mFree d r) else if w = 2 then d (rA r + 2) else d (rA r + 3)
def mPlN (d : Nat → Int32) (p w : Nat) : Int32 := if w = 0 then d (pA p + 1) else if w = 1 then nI (sLet d p) else if w = 2 then d (pA p) else nI (sOwn d (nI p))
def mTile (d : Nat → Int32) (r t : Nat) : Int32 := if t < mUse d r then d (rA r + 5 + t) else -1
section TM
variable {I : MI} {J : MJ}
theorem m_lettersOf {x1 x2 : Int32} {Q : Int32 → MI → MJ → Prop} (W : WF (I 12 2)) (p m : Nat) (e1 : x1 = nI p) (e2 : x2 = nI m) (hp : p < 4) (hm : m < 256) (h : Q (nI (sBit (I 12 2) p m)) I J) : f_X8_lettersOf x1 x2 I J Q := by
  refine ⟨8 + 1, up_sum (fun m a i => f_X8_lettersOf_L5 x1 x2 _ m a i I J) (fun v => Q v I J) 8 _ (fun m acc h => ?_) (fun _ acc k hk h => ?_) h⟩
  · show f_X8_lettersOf_B5 _ _ _ _ _ _ I J
    exact q_t (by decide) h
  · show f_X8_lettersOf_B5 _ _ _ _ _ _ I J
    have b := bt_at m hm k hk
    refine q_f (nge hk (by decide)) (q_eq (if m.testBit k then 1 else 0) 1 (by split <;> omega) (by decide) (by rw [e2]; exact b) rfl (fun q => m_lengthOf p k e1 rfl hp hk (fun a ea j ej => h a j ?_ ?_)) (fun q j ej => h _ j ?_ ?_))
    · have q1 : m.testBit k = true := by
        cases hb : m.testBit k
        · rw [hb] at q; exact absurd q (by decide)
        · rfl
      rw [ea, w_len W hp hk, nI_add, if_pos q1]
    · rw [ej, nI_1]
    · rw [if_neg (fun z => q (by rw [if_pos z]))]; rfl
    · rw [ej, nI_1]
theorem m_told {x : Int32} {Q : Int32 → MI → MJ → Prop} (W : WF (I 12 2)) (w : Nat) (e : x = nI w) (hw : w < 12) (h : Q (mState (I 12 2) w) I J) : f_X8_told x I J Q := by
  unfold mState at h
  refine q_eq w 8 (by omega) (by decide) e rfl (fun q => ?_) (fun q => q_eq w 9 (by omega) (by decide) e rfl (fun q2 => ?_) (fun q2 => q_eq w 10 (by omega) (by decide) e rfl (fun q3 => ?_) (fun q3 => q_eq w 11 (by omega) (by decide) e rfl (fun q4 => ?_) (fun q4 => ?_))))
  · rw [if_pos q] at h; exact m_laidWords W h
  · rw [if_neg q, if_pos q2] at h; exact m_fullRows W h
  · rw [if_neg q, if_neg q2, if_pos q3] at h; exact m_plays W h
  · rw [if_neg q, if_neg q2, if_neg q3, if_pos q4] at h; exact m_wordsOfAll W h
  · rw [if_neg q, if_neg q2, if_neg q3, if_neg q4] at h
    refine ⟨vin w _ (by omega) (by decide) e, ?_⟩
    rw [cln (by omega) e]
    exact h
theorem m_toldRow {x1 x2 : Int32} {Q : Int32 → MI → MJ → Prop} (W : WF (I 12 2)) (r w : Nat) (e1 : x1 = nI r) (e2 : x2 = nI w) (hr : r < 6) (hw : w < 4) (h : Q (mRowN (I 12 2) r w) I J) : f_X8_toldRow x1 x2 I J Q := by
  unfold mRowN at h
  refine q_eq w 0 (by omega) (by decide) e2 rfl (fun q => ?_) (fun q => q_eq w 1 (by omega) (by decide) e2 rfl (fun q2 => ?_) (fun q2 => q_eq w 2 (by omega) (by decide) e2 rfl (fun q3 => ?_) (fun q3 => ?_)))
  · rw [if_pos q] at h; exact m_ofRow r 0 e1 rfl hr (by decide) h
  · rw [if_neg q, if_pos q2] at h; exact m_free W r e1 hr h
  · rw [if_neg q, if_neg q2, if_pos q3] at h; exact m_ofRow r 2 e1 rfl hr (by decide) h
  · rw [if_neg q, if_neg q2, if_neg q3] at h; exact m_ofRow r 3 e1 rfl hr (by decide) h
theorem m_toldPlayer {x1 x2 : Int32} {Q : Int32 → MI → MJ → Prop} (W : WF (I 12 2)) (p w : Nat) (e1 : x1 = nI p) (e2 : x2 = nI w) (hp : p < 4) (hw : w < 4) (h : Q (mPlN (I 12 2) p w) I J) : f_X8_toldPlayer x1 x2 I J Q := by
  have h8 := (W.2.2.2 p hp).1
  unfold mPlN at h
  refine q_eq w 0 (by omega) (by decide) e2 rfl (fun q => ?_) (fun q => q_eq w 1 (by omega) (by decide) e2 rfl (fun q2 => ?_) (fun q2 => q_eq w 2 (by omega) (by decide) e2 rfl (fun q3 => ?_) (fun q3 => ?_)))
  · rw [if_pos q] at h; exact m_ofPlayer p 1 e1 rfl hp (by decide) h
  · rw [if_neg q, if_pos q2, ← sBit_let h8] at h
    refine m_many W p e1 hp (m_lettersOf W p (2 ^ mMany (I 12 2) p - 1) e1 (bt_mask _ (by omega)) hp ?_ h)
    have := Nat.pow_le_pow_right (show 0 < 2 by decide) h8
    omega
  · rw [if_neg q, if_neg q2, if_pos q3] at h; exact m_ofPlayer p 0 e1 rfl hp (by decide) h
  · rw [if_neg q, if_neg q2, if_neg q3] at h; exact m_owned W (by rw [e1]; exact h)
theorem m_toldTile {x1 x2 : Int32} {Q : Int32 → MI → MJ → Prop} (W : WF (I 12 2)) (r t : Nat) (e1 : x1 = nI r) (e2 : x2 = nI t) (hr : r < 6) (ht : t < 1048576) (h : Q (mTile (I 12 2) r t) I J) : f_X8_toldTile x1 x2 I J Q := by
  have w := W.2.2.1 r hr
  unfold mTile at h
  refine m_ofRow r 1 e1 rfl hr (by decide) (q_le (mUse (I 12 2) r) t (by omega) (by omega) (wf_c W (okc_row hr (k := 1) (by decide) (by decide))) e2 (fun q => ?_) (fun q => ?_))
  · rw [if_neg (by omega)] at h; exact h
  · rw [if_pos q] at h
    exact m_ofRow r (5 + t) e1 (by rw [e2, nlit 5, nI_add]) hr (by omega) (by rw [← Nat.add_assoc]; exact h)
end TM
section TG
variable {I : MI} {J : MJ} {d : Nat → Int32} {b : Nat}
theorem g_lettersOfHand {x : Int32} {Q : Int32 → MI → MJ → Prop} (W : WF d) (C : RC I J b d) (p : Nat) (e : x = nI p) (hp : p < dn d 1) (h : Q (nI (sLet d p)) I J) : f_X1_lettersOfHand b x I J Q := by
  have h4 := wf_pls W
  have w := W.2.2.2 p (by omega)
  refine ⟨mMany d p + 1, up_sum (fun m a i => f_X1_lettersOfHand_L4 b x _ m a i I J) (fun v => Q v I J) (mMany d p) _ (fun m acc h => ?_) (fun m acc i hi h => ?_) h⟩
  · show f_X1_lettersOfHand_B4 _ _ _ _ _ _ I J
    refine ⟨vin p 4 (by omega) (by decide) e, q_t ?_ h⟩
    rw [cln (by omega) e, e_many W C hp]
    exact Int32.le_refl _
  · show f_X1_lettersOfHand_B4 _ _ _ _ _ _ I J
    refine ⟨vin p 4 (by omega) (by decide) e, q_f ?_ (g_wordOf W C p i e rfl hp hi (k_len _ _ (wrd_hand W (by omega) hi) rfl (fun a ea j ej => h a j ?_ ?_)))⟩
    · rw [cln (by omega) e, e_many W C hp]
      exact nge hi (by omega)
    · rw [ea, nI_add]
    · rw [ej, nI_1]
theorem g_rowNumber {x1 x2 : Int32} {Q : Int32 → MI → MJ → Prop} (W : WF d) (C : RC I J b d) (r w : Nat) (e1 : x1 = nI r) (e2 : x2 = nI w) (hr : r < dn d 0) (hw : w < 4) (h : Q (mRowN d r w) I J) : f_X1_rowNumber b x1 x2 I J Q := by
  have h6 := wf_rows W
  have c := C.2.2.1 r hr
  have v6 : vp_in x1 6 := vin r 6 (by omega) (by decide) e1
  unfold mRowN at h
  refine q_eq w 0 (by omega) (by decide) e2 rfl (fun q => ⟨v6, ?_⟩) (fun q => q_eq w 1 (by omega) (by decide) e2 rfl (fun q2 => ?_) (fun q2 => q_eq w 2 (by omega) (by decide) e2 rfl (fun q3 => ⟨v6, ?_⟩) (fun q3 => ⟨v6, ?_⟩)))
  · rw [if_pos q] at h; rw [cln (by omega) e1, c.1]; exact h
  · rw [if_neg q, if_pos q2] at h; exact g_free W C r e1 hr h
  · rw [if_neg q, if_neg q2, if_pos q3] at h; rw [cln (by omega) e1, c.2.2.1]; exact h
  · rw [if_neg q, if_neg q2, if_neg q3] at h; rw [cln (by omega) e1, c.2.2.2.1]; exact h
theorem g_playerNumber {x1 x2 : Int32} {Q : Int32 → MI → MJ → Prop} (W : WF d) (C : RC I J b d) (p w : Nat) (e1 : x1 = nI p) (e2 : x2 = nI w) (hp : p < dn d 1) (hw : w < 4) (h : Q (mPlN d p w) I J) : f_X1_playerNumber b x1 x2 I J Q := by
  have h4 := wf_pls W
  have c := C.2.2.2.1 p hp
  have v4 : vp_in x1 4 := vin p 4 (by omega) (by decide) e1
  unfold mPlN at h
  refine q_eq w 0 (by omega) (by decide) e2 rfl (fun q => ⟨v4, ?_⟩) (fun q => q_eq w 1 (by omega) (by decide) e2 rfl (fun q2 => ?_) (fun q2 => q_eq w 2 (by omega) (by decide) e2 rfl (fun q3 => ⟨v4, ?_⟩) (fun q3 => ?_)))
  · rw [if_pos q] at h; rw [cln (by omega) e1, c.1]; exact h
  · rw [if_neg q, if_pos q2] at h; exact g_lettersOfHand W C p e1 hp h
  · rw [if_neg q, if_neg q2, if_pos q3] at h; rw [cln (by omega) e1, c.2.1]; exact h
  · rw [if_neg q, if_neg q2, if_neg q3] at h; exact g_rowsOwnedBy W C (by rw [e1]; exact h)
theorem g_stateNumber {x : Int32} {Q : Int32 → MI → MJ → Prop} (W : WF d) (C : RC I J b d) (w : Nat) (e : x = nI w) (hw : w < 12) (h : Q (mState d w) I J) : f_X1_stateNumber b x I J Q := by
  have z (n : Nat) (hn : n < 12) (A B : Prop) (f : w = n → A) (g : ¬ w = n → B) : (x = nI n → A) ∧ (¬ x = nI n → B) := q_eq w n (by omega) (by omega) e rfl f g
  have hs (n : Nat) (q : w = n) : Q (mState d n) I J := by rw [← q]; exact h
  refine z 0 (by decide) _ _ (fun q => ?_) (fun q0 => z 1 (by decide) _ _ (fun q => ?_) (fun q1 => z 2 (by decide) _ _ (fun q => ?_) (fun q2 => z 3 (by decide) _ _ (fun q => ?_) (fun q3 => z 4 (by decide) _ _ (fun q => ?_) (fun q4 => z 5 (by decide) _ _ (fun q => ?_) (fun q5 => z 6 (by decide) _ _ (fun q => ?_) (fun q6 => z 7 (by decide) _ _ (fun q => ?_) (fun q7 => z 8 (by decide) _ _ (fun q => ?_) (fun q8 => z 9 (by decide) _ _ (fun q => ?_) (fun q9 => z 10 (by decide) _ _ (fun q => ?_) (fun q10 => ?_)))))))))))
  · rw [C.1.1]; exact hs 0 q
  · rw [C.1.2.1]; exact hs 1 q
  · rw [C.1.2.2.1]; exact hs 2 q
  · rw [C.1.2.2.2.1]; exact hs 3 q
  · rw [C.1.2.2.2.2.1]; exact hs 4 q
  · rw [C.1.2.2.2.2.2.1]; exact hs 5 q
  · have h6 : Q (d 6) I J := hs 6 q
    have b6 : dn d 6 ≤ 1 := W.2.1.2.2.2.2.2.2.1
    rw [wf_c W (okc_lo (i := 6) (by decide))] at h6
    refine q_eq (dn d 6) 0 (by omega) (by decide) (C.1.2.2.2.2.2.2.1.trans (wf_c W (okc_lo (i := 6) (by decide)))) rfl (fun q => ?_) (fun q => ?_)
    · rw [q] at h6; exact h6
    · rw [show dn d 6 = 1 by omega] at h6; exact h6
  · rw [C.1.2.2.2.2.2.2.2]; exact hs 7 q
  · exact g_wordsOnRows W C (hs 8 q)
  · exact g_filledRows W C (hs 9 q)
  · exact g_playsNow W C (hs 10 q)
  · exact g_wordsOfHands W C (hs 11 (by omega))
theorem g_letterOnTile {x1 x2 : Int32} {Q : Int32 → MI → MJ → Prop} (W : WF d) (C : RC I J b d) (r t : Nat) (e1 : x1 = nI r) (e2 : x2 = nI t) (hr : r < dn d 0) (ht : t < 1048576) (h : Q (mTile d r t) I J) : f_X1_letterOnTile b x1 x2 I J Q := by
  have h6 := wf_rows W
  have w := W.2.2.1 r (by omega)
  have c := C.2.2.1 r hr
  unfold mTile at h
  refine ⟨vin r 6 (by omega) (by decide) e1, ?_⟩
  rw [cln (by omega) e1, c.2.1]
  refine q_le (mUse d r) t (by omega) (by omega) (wf_c W (okc_row (by omega) (k := 1) (by decide) (by decide))) e2 (fun q => ?_) (fun q => ?_)
  · rw [if_neg (by omega)] at h; exact h
  · rw [if_pos q] at h
    have e : x1 * (40 : Int32) + x2 = nI (40 * r + t) := by rw [e1, e2, nlit 40, nmul, nI_add, Nat.mul_comm]
    refine ⟨vin (40 * r + t) 240 (by omega) (by decide) e, ?_⟩
    rw [cln (by omega) e, c.2.2.2.2.2 t q]
    exact h
end TG
