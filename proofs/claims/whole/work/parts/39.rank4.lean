/-! A PLAY'S RANK in the class -/
section M4
variable {J : MJ} {b : Nat} {d : Nat → Int32}
/-- the class' tokens -/
def gTok (I : MI) (b : Nat) (L : List TK) : Prop := I b 2 2 = nI L.length ∧ ∀ i, i < L.length → I b 5 i = tkC (L.getD i (0, 0))
theorem RK_tok {I : MI} (h : RK I b d) : ∃ L, mTok d L ∧ gTok I b L := by
  obtain ⟨L, h1, h2, h3, h4, h5, h6⟩ := h
  exact ⟨L, ⟨h1, h2, h5, h6⟩, h3, h4⟩
theorem gTok_keep {I I2 : MI} {L : List TK} (T : gTok I b L) (h : sI2 b I I2) : gTok I2 b L := by
  unfold gTok at T ⊢
  rw [h.at 2 (by decide) (by decide), h.at 5 (by decide) (by decide)]
  exact T
theorem g_value {I : MI} {Q : Int32 → MI → MJ → Prop} (L : List TK) (F : Nat → Nat) (hF : ∀ j, F j < 10000) (hD : tkD L 0 = some 1) (hL : L.length ≤ 600) (T : gTok I b L) (hX : ∀ j, j ≤ 5 → I b 15 j = nI (F j)) (h : ∀ (v : Int32) (I2 : MI), sI2 b I I2 → v.toInt = (evL (fun j => (F j : Int)) L []).headD 0 → Q v I2 J) : f_X3_value b I J Q := by
  have hF2 : ∀ j, mil ((F j : Nat) : Int) := fun j => by have := hF j; unfold mil; omega
  refine ⟨L.length + 1, g_valueL (fun j => (F j : Int)) hF2 L.length hL L 0 [] I I 0 0 hD trivial (fun _ h => absurd h List.not_mem_nil) sI2.rfl T.1 (fun i hi => by rw [Nat.zero_add]; exact T.2 i hi) (fun j hj => ?_) (Nat.zero_add _) (by simp) rfl rfl (fun I2 hS hO => ⟨vin 0 16 (by decide) (by decide) rfl, h _ I2 hS ?_⟩)⟩
  · rw [hX j hj, nI_toInt (by have := hF j; omega)]
  · have hlen := evL_len (fun j => (F j : Int)) L [] 1 hD
    match hE : evL (fun j => (F j : Int)) L [], hlen with
    | [z], _ =>
      rw [hE] at hO
      exact hO.1
theorem fx_at {I I2 : MI} {k : Nat} {v : Int32} {x : Int32} (e : I2 = sI I b 15 x.toNatClampNeg v) (ex : x.toNatClampNeg = k) : I2 b 15 k = v ∧ ∀ j, j ≠ k → I2 b 15 j = I b 15 j := by
  rw [ex] at e
  exact ⟨by rw [e, sI_at], fun j hj => by rw [e, sI_ot _ _ _ _ hj]⟩
theorem g_rankOf {I : MI} {x1 x2 : Int32} {Q : Int32 → MI → MJ → Prop} (W : WF d) (C : RC I J b d) (L : List TK) (T : mTok d L) (G : gTok I b L) (k r : Nat) (e1 : x1 = nI k) (e2 : x2 = nI r) (hk : k < mMany d (dn d 5)) (hr : r < dn d 0) (hfit : mLen d (dn d 5) k ≤ mFree d r)
    (h : ∀ (v : Int32) (I2 : MI), sI2 b I I2 → v.toInt = mRank d L k r → Q v I2 J) : f_X1_rankOf b x1 x2 I J Q := by
  have hp := wf_turn W
  have h6 := wf_rows W
  have hr6 : r < 6 := by omega
  have hm := (W.2.2.2 _ hp).1
  have w := wrd_hand W hp hk
  have v6 : vp_in x2 6 := vin r 6 hr6 (by decide) e2
  have hFl := mFact_lt W hk hr6
  refine g_wordOf W C (dn d 5) k (e_turn W C) e1 (wf_tp W) hk (k_len (wA (dn d 5) k + 1) (mLen d (dn d 5) k) w rfl (g_free W C r e2 hr (fun z ez => ?_)))
  have ez2 : z = nI (mFree d r - mLen d (dn d 5) k) := by rw [ez, nsub hfit]
  have hz : mFree d r - mLen d (dn d 5) k < 2 ^ 31 := by have := (W.2.2.1 r hr6).1; show mTil d r - mUse d r - _ < _; omega
  refine g_pointsFor W C _ _ r w rfl e2 hr ⟨vin 0 6 (by decide) (by decide) (by decide), fun I1 q1 => ⟨vin 1 6 (by decide) (by decide) (by decide), fun I2 q2 => ⟨v6, ?_⟩⟩⟩
  have s1 : sI2 b I I1 := sI2.rfl.put15 q1
  have s2 : sI2 b I I2 := s1.put15 q2
  have f1 := fx_at q1 (k := 0) (by decide)
  have f2 := fx_at q2 (k := 1) (by decide)
  have C2 := RC_keep C s2
  rw [cln (by omega) e2, (C2.2.2.1 r hr).2.2.2.2.1]
  refine k_rhymeOf C2.2.1 _ _ _ _ w (wrd_last W hr6) rfl rfl ⟨vin 2 6 (by decide) (by decide) (by decide), fun I3 q3 => ⟨vin 3 6 (by decide) (by decide) (by decide), fun I4 q4 => ?_⟩⟩
  have s3 : sI2 b I I3 := s2.put15 q3
  have s4 : sI2 b I I4 := s3.put15 q4
  have f3 := fx_at q3 (k := 2) (by decide)
  have f4 := fx_at q4 (k := 3) (by decide)
  have tail : ∀ (u : Int32) (I5 I6 : MI), u = nI (mFact d k r 4) → I5 = sI I4 b 15 ((-1 : Int32) - (-5 : Int32)).toNatClampNeg u → I6 = sI I5 b 15 ((-1 : Int32) - (-6 : Int32)).toNatClampNeg ((I5 b 13 (I5 b 0 9).toNatClampNeg) - (1 : Int32)) → f_X3_value b I6 J (fun v I7 J7 => Q v I7 J7) := by
    intro u I5 I6 eu q5 q6
    have s5 : sI2 b I I5 := s4.put15 q5
    have s6 : sI2 b I I6 := s5.put15 q6
    have f5 := fx_at q5 (k := 4) (by decide)
    have f6 := fx_at q6 (k := 5) (by decide)
    have C5 := RC_keep C s5
    refine g_value L (mFact d k r) hFl T.1 T.2.1 (gTok_keep G s6) (fun j hj => ?_) (fun v I7 s7 hv => h v I7 (s6.trans s7) hv)
    match j, hj with
    | 0, _ =>
      rw [f6.2 0 (by decide), f5.2 0 (by decide), f4.2 0 (by decide), f3.2 0 (by decide), f2.2 0 (by decide), f1.1]
      rfl
    | 1, _ =>
      rw [f6.2 1 (by decide), f5.2 1 (by decide), f4.2 1 (by decide), f3.2 1 (by decide), f2.1]
      rfl
    | 2, _ =>
      rw [f6.2 2 (by decide), f5.2 2 (by decide), f4.2 2 (by decide), f3.1, rh_none W hr6]
      rfl
    | 3, _ =>
      rw [f6.2 3 (by decide), f5.2 3 (by decide), f4.1, ez2]
      rfl
    | 4, _ => rw [f6.2 4 (by decide), f5.1, eu]
    | 5, _ =>
      rw [f6.1, cln (by omega) (e_turn W C5), e_many W C5 (wf_tp W), nlit 1, nsub (by omega)]
      rfl
  have v5 : ∀ (I5 : MI), sI2 b I I5 → vp_in (I5 b 0 9) 4 := fun I5 s5 => vin (dn d 5) 4 hp (by decide) (e_turn W (RC_keep C s5))
  refine q_eq _ 0 hz (by decide) ez2 rfl (fun q => ?_) (fun q => ?_)
  · refine ⟨vin 4 6 (by decide) (by decide) (by decide), fun I5 q5 => ⟨v5 I5 (s4.put15 q5), vin 5 6 (by decide) (by decide) (by decide), fun I6 q6 => tail 1 I5 I6 ?_ q5 q6⟩⟩
    show 1 = nI (if mFree d r - mLen d (dn d 5) k = 0 then 1 else 0)
    rw [if_pos q]; rfl
  · refine ⟨vin 4 6 (by decide) (by decide) (by decide), fun I5 q5 => ⟨v5 I5 (s4.put15 q5), vin 5 6 (by decide) (by decide) (by decide), fun I6 q6 => tail 0 I5 I6 ?_ q5 q6⟩⟩
    show 0 = nI (if mFree d r - mLen d (dn d 5) k = 0 then 1 else 0)
    rw [if_neg q]; rfl
end M4
