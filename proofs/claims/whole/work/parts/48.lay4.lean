/-! A WORD LAID: the model -/
theorem put2 {I s s' : MI} {d : Nat → Int32} {i : Nat} {v v' : Int32} (hs : s = rI I 12 2 d) (e : s' = sI s 12 2 i v) (ev : v = v') : s' = rI I 12 2 (upd d i v') := by
  rw [e, ev, hs]
  show rI (rI I 12 2 d) 12 2 (upd (rI I 12 2 d 12 2) i v') = _
  rw [rI_same, rI_rI]
theorem get2 {I s : MI} {d : Nat → Int32} (hs : s = rI I 12 2 d) (i : Nat) : s 12 2 i = d i := by rw [hs, rI_same]
theorem sumN_le {f : Nat → Nat} {c : Nat} : ∀ n, (∀ k, k < n → f k ≤ c) → sumN f n ≤ n * c
  | 0, _ => Nat.zero_le _
  | n + 1, h => by
    have := sumN_le n (fun k hk => h k (by omega))
    have := h n (by omega)
    show sumN f n + f n ≤ _
    rw [Nat.succ_mul]
    omega
theorem sWords_le {d : Nat → Int32} (W : WF d) : sWords d ≤ 32 := by
  have h4 := wf_pls W
  have := sumN_le (f := fun p => mMany d p) (c := 8) (dn d 1) (fun p hp => (W.2.2.2 p (by omega)).1)
  have e : sWords d = sumN (fun p => mMany d p) (dn d 1) := rfl
  omega
section LN
variable {I : MI} {J : MJ}
theorem m_layNow {x1 x2 : Int32} {Q : Int32 → MI → MJ → Prop} (W : WF (I 12 2)) (k r : Nat) (e1 : x1 = nI k) (e2 : x2 = nI r) (hk : k < mMany (I 12 2) (dn (I 12 2) 5)) (hr : r < 6) (hn : mLen (I 12 2) (dn (I 12 2) 5) k ≤ mFree (I 12 2) r) (h : Q (nI (mPts (I 12 2) (dn (I 12 2) 5) k r)) (rI I 12 2 (dLay (I 12 2) k r)) J) : f_X8_layNow x1 x2 I J Q := by
  have ht := wf_turn W
  have wt := W.2.2.2 _ ht
  have wr := W.2.2.1 r hr
  have w1 := (wt.2 k hk).1
  have hu := lay_fit W hr hn
  have h8 : k < 8 := Nat.lt_of_lt_of_le hk wt.1
  refine ⟨vin 5 _ (by decide) (by decide) rfl, fun x3 e3 => ?_⟩
  have e3' : x3 = nI (dn (I 12 2) 5) := e3.trans (c5 W)
  refine m_pointsFor W (dn (I 12 2) 5) k r e3' e1 e2 ht hk hr (m_lengthOf (dn (I 12 2) 5) k e3' e1 ht h8 (m_rowAt r e2 ⟨_, m_lay1 W k r e1 e3' (w_len W ht h8) rfl h8 hr hn ?_⟩))
  have b1 : rA r + 1 < 2 ^ 31 := by show 36 + 45 * r + 1 < _; omega
  have b2 : rA r + 2 < 2 ^ 31 := by show 36 + 45 * r + 2 < _; omega
  have b3 : rA r + 3 < 2 ^ 31 := by show 36 + 45 * r + 3 < _; omega
  have b4 : rA r + 4 < 2 ^ 31 := by show 36 + 45 * r + 4 < _; omega
  have b5 : pA (dn (I 12 2) 5) < 1000 := by show 306 + 74 * dn (I 12 2) 5 < _; omega
  have q1 : nI (rA r) + 1 = nI (rA r + 1) := nI_1 _
  have q2 : nI (rA r) + 2 = nI (rA r + 2) := by rw [nlit 2, nI_add]
  have q3 : nI (rA r) + 3 = nI (rA r + 3) := by rw [nlit 3, nI_add]
  have q4 : nI (rA r) + 4 = nI (rA r + 4) := by rw [nlit 4, nI_add]
  have q5 : nI (pA (dn (I 12 2) 5)) + 1 = nI (pA (dn (I 12 2) 5) + 1) := nI_1 _
  have v1 : vp_in (nI (rA r) + 1) 1802 := vin (rA r + 1) _ (by show 36 + 45 * r + 1 < _; omega) (by decide) q1
  have v2 : vp_in (nI (rA r) + 2) 1802 := vin (rA r + 2) _ (by show 36 + 45 * r + 2 < _; omega) (by decide) q2
  have v3 : vp_in (nI (rA r) + 3) 1802 := vin (rA r + 3) _ (by show 36 + 45 * r + 3 < _; omega) (by decide) q3
  have v4 : vp_in (nI (rA r) + 4) 1802 := vin (rA r + 4) _ (by show 36 + 45 * r + 4 < _; omega) (by decide) q4
  have v5 : vp_in (nI (pA (dn (I 12 2) 5)) + 0) 1802 := vin (pA (dn (I 12 2) 5)) _ (by omega) (by decide) (e00 _)
  have v6 : vp_in (nI (pA (dn (I 12 2) 5)) + 1) 1802 := vin (pA (dn (I 12 2) 5) + 1) _ (by omega) (by decide) q5
  have u0 : ∀ {i : Nat}, i < 36 + 45 * r + 5 → lay1 (I 12 2) k r (mLen (I 12 2) (dn (I 12 2) 5) k) i = I 12 2 i := fun {i} hi => cpy_out (Or.inl (by show i < 36 + 45 * r + 5 + _; omega))
  have u1 : ∀ {i : Nat}, 306 ≤ i → lay1 (I 12 2) k r (mLen (I 12 2) (dn (I 12 2) 5) k) i = I 12 2 i := fun {i} hi => cpy_out (Or.inr (by show 36 + 45 * r + 5 + _ + _ ≤ i; omega))
  refine ⟨v1, v1, fun I32 e32 => ⟨v2, v2, fun I35 e35 => ⟨v3, fun I37 e37 => ⟨v4, fun I39 e39 => m_playerAt _ e3' ⟨v5, v5, fun I45 e45 => m_playerAt _ e3' ⟨v6, v6, fun I51 e51 => m_wordAt _ k e3' e1 ?_⟩⟩⟩⟩⟩⟩
  rw [cln b1 q1] at e32
  rw [cln b2 q2] at e35
  rw [cln b3 q3] at e37
  rw [cln b4 q4] at e39
  rw [cln (by omega) (e00 _)] at e45
  rw [cln (by omega) q5] at e51
  have f32 := put2 rfl e32 (v' := nI (mUse (I 12 2) r + mLen (I 12 2) (dn (I 12 2) 5) k)) (by
    rw [get2 rfl, u0 (show 36 + 45 * r + 1 < 36 + 45 * r + 5 by omega), w_len W ht h8, wf_c W (okc_row hr (k := 1) (by decide) (by decide)), nI_add])
  have f35 := put2 f32 e35 (v' := nI (mWds (I 12 2) r + 1)) (by
    rw [get2 f32, upd_ot _ _ (show 36 + 45 * r + 2 ≠ 36 + 45 * r + 1 by omega), u0 (show 36 + 45 * r + 2 < 36 + 45 * r + 5 by omega), wf_c W (okc_row hr (k := 2) (by decide) (by decide)), nI_1])
  have f37 := put2 f35 e37 (v' := nI (dn (I 12 2) 5)) e3'
  have f39 := put2 f37 e39 (v' := nI (mLen (I 12 2) (dn (I 12 2) 5) k)) (w_len W ht h8)
  have f45 := put2 f39 e45 (v' := I 12 2 (pA (dn (I 12 2) 5)) + nI (mPts (I 12 2) (dn (I 12 2) 5) k r)) (by
    rw [get2 f39, upd_ot _ _ (show 306 + 74 * dn (I 12 2) 5 ≠ 36 + 45 * r + 4 by omega), upd_ot _ _ (show 306 + 74 * dn (I 12 2) 5 ≠ 36 + 45 * r + 3 by omega), upd_ot _ _ (show 306 + 74 * dn (I 12 2) 5 ≠ 36 + 45 * r + 2 by omega), upd_ot _ _ (show 306 + 74 * dn (I 12 2) 5 ≠ 36 + 45 * r + 1 by omega), u1 (show 306 ≤ 306 + 74 * dn (I 12 2) 5 by omega)])
  have f51 := put2 f45 e51 (v' := nI (mMany (I 12 2) (dn (I 12 2) 5) - 1)) (by
    rw [get2 f45, upd_ot _ _ (show 306 + 74 * dn (I 12 2) 5 + 1 ≠ 306 + 74 * dn (I 12 2) 5 by omega), upd_ot _ _ (show 306 + 74 * dn (I 12 2) 5 + 1 ≠ 36 + 45 * r + 4 by omega), upd_ot _ _ (show 306 + 74 * dn (I 12 2) 5 + 1 ≠ 36 + 45 * r + 3 by omega), upd_ot _ _ (show 306 + 74 * dn (I 12 2) 5 + 1 ≠ 36 + 45 * r + 2 by omega), upd_ot _ _ (show 306 + 74 * dn (I 12 2) 5 + 1 ≠ 36 + 45 * r + 1 by omega), u1 (show 306 ≤ 306 + 74 * dn (I 12 2) 5 + 1 by omega), wf_c W (okc_pl ht (k := 1) (by decide) (by decide)), nlit 1, nsub (show 1 ≤ dn (I 12 2) (pA (dn (I 12 2) 5) + 1) by show 1 ≤ mMany (I 12 2) (dn (I 12 2) 5); omega)])
  have f51' : I51 = rI I 12 2 (lay2 (I 12 2) k r) := f51
  refine ⟨_, m_lay3 (d := lay2 (I 12 2) k r) (dn (I 12 2) 5) k (mMany (I 12 2) (dn (I 12 2) 5) - 1) e3' rfl ht (by omega) (by omega) (by rw [f51', rI_same]) lay2_many ⟨vin 7 _ (by decide) (by decide) rfl, fun I73 e73 => ?_⟩⟩
  have f73 : I73 = rI I 12 2 (lay4 (I 12 2) k r) := put2 (d := lay3 (I 12 2) k r (9 * (mMany (I 12 2) (dn (I 12 2) 5) - 1 - k))) (by rw [f51', rI_rI]; rfl) e73 rfl
  have s73 : I73 12 2 = lay4 (I 12 2) k r := by rw [f73, rI_same]
  have W73 : WF (I73 12 2) := by rw [s73]; exact WF_lay4 W hk hr hn
  have hw := sWords_le W73
  unfold dLay at h
  refine m_wordsOfAll W73 (q_eq (sWords (I73 12 2)) 0 (by omega) (by decide) rfl rfl (fun q => m_endGame W73 ?_) (fun q => m_nextTurn W73 ?_))
  · rw [s73] at q ⊢
    rw [if_pos q] at h
    rw [f73, rI_rI]; exact h
  · rw [s73] at q ⊢
    rw [if_neg q] at h
    rw [f73, rI_rI]; exact h
end LN
