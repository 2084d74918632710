/-! CHANGES: lay, pass, auto behind their checks, on both sides -/
section CH
variable {I : MI} {J : MJ}
theorem kp_put {c : Nat} {I1 : MI} {d' : Nat → Int32} (k : kpM c I I1) : kpH c I (rI I1 12 2 d') ∧ mcF I (rI I1 12 2 d') := by
  obtain ⟨d1, d2, d3, d4, d5, d6, d7, d8⟩ := k
  have r : ∀ q, q ≠ 2 → (rI I1 12 2 d') 12 q = I1 12 q := fun q h => rI_ne (fun z => h z.2)
  refine ⟨⟨?_, fun hc => ?_, fun hc => ?_⟩, fun b hb => ?_, ?_, fun i h0 h12 => ?_⟩
  · rw [r 0 (by decide)]; exact d6
  · have z := d7 hc
    exact ⟨by rw [r _ (by omega)]; exact z.1, fun q hq => by rw [r _ (by omega)]; exact z.2 q hq⟩
  · have z := d8 hc
    exact ⟨by rw [r _ (by omega)]; exact z.1, fun q hq => by rw [r _ (by omega)]; exact z.2 q hq⟩
  · funext q; rw [rI_ne (fun z => hb z.1), d1 b hb]
  · rw [r 1 (by decide)]; exact d2
  · rw [r 0 (by decide)]; exact d5 i h12
section CC
variable {d : Nat → Int32} {c nx : Nat}
theorem k_layC {x1 x2 : Int32} {Q : Int32 → MI → MJ → Prop} (W : WF d) (C : RC I J 0 d) (hc : c ≤ 8) (hn : nx < 8) (ec : I 11 2 2 = nI c) (en : I 11 2 1 = nI nx) (k r : Nat) (e1 : x1 = nI k) (e2 : x2 = nI r) (hk : k < mMany d (dn d 5)) (hr : r < dn d 0) (hf : mLen d (dn d 5) k ≤ mFree d r)
    (h : ∀ I' J', kcC d c nx I I' J J' → RC I' J' 0 (dLay d k r) → Q (nI (mPts d (dn d 5) k r)) I' J') : f_X2_keep 0 I J (fun I1 J1 => f_X1_layWord 0 x1 x2 I1 J1 Q) :=
  k_keep W C hc hn ec en (fun I1 J1 k1 => g_layWord W (RC_blk C (k1.2.1 0 (by omega) (by decide)) (k1.2.2.2.2.2 0 (by omega))) k r e1 e2 hk hr hf (fun I2 J2 C2 o2 p2 => h I2 J2 (kc_of k1 (fun b hb => by funext q; exact o2 b q (Or.inl hb)) (fun b hb => by funext q; exact p2 b q hb)) C2))
theorem k_passC {Q : MI → MJ → Prop} (W : WF d) (C : RC I J 0 d) (hc : c ≤ 8) (hn : nx < 8) (ec : I 11 2 2 = nI c) (en : I 11 2 1 = nI nx) (hq : dn d 7 < dn d 1)
    (h : ∀ I' J', kcC d c nx I I' J J' → RC I' J' 0 (dPass d) → Q I' J') : f_X2_keep 0 I J (fun I1 J1 => f_X1_passTurn 0 I1 J1 Q) :=
  k_keep W C hc hn ec en (fun I1 J1 k1 => g_passTurn W (RC_blk C (k1.2.1 0 (by omega) (by decide)) (k1.2.2.2.2.2 0 (by omega))) hq (fun I2 C2 o2 => h I2 J1 (kc_of k1 (fun b hb => by funext q; exact o2 b q (Or.inl hb)) (fun b hb => Eq.refl _)) C2))
theorem k_autoC {x1 : Int32} {lim : Nat} {Q : Int32 → MI → MJ → Prop} (W : WF d) (V : LV d) (C : RC I J 0 d) (hc : c ≤ 8) (hn : nx < 8) (ec : I 11 2 2 = nI c) (en : I 11 2 1 = nI nx) (e1 : x1 = nI lim) (hl : lim < 2 ^ 31)
    (h : ∀ L, mTok d L → ∀ I' J', kcC d c nx I I' J J' → RC I' J' 0 (gon L lim 165 d 0).1 → Q (nI (gon L lim 165 d 0).2) I' J') : f_X2_keep 0 I J (fun I1 J1 => f_X1_playOn 0 x1 I1 J1 Q) := by
  refine k_keep W C hc hn ec en (fun I1 J1 k1 => ?_)
  have C1 : RC I1 J1 0 d := RC_blk C (k1.2.1 0 (by omega) (by decide)) (k1.2.2.2.2.2 0 (by omega))
  obtain ⟨L, T, G⟩ := RK_tok C1.2.2.2.2
  exact g_playOn e1 hl W C1 T G V (fun I2 J2 C2 o2 p2 => h L T I2 J2 (kc_of k1 (fun b hb => by funext q; exact o2 b q (Or.inl hb)) (fun b hb => by funext q; exact p2 b q hb)) C2)
end CC
theorem m_layC {c : Nat} {x1 x2 : Int32} {Q : Int32 → MI → MJ → Prop} (W : WF (I 12 2)) (hc : c ≤ 8) (ec : I 12 0 12 = nI c) (k r : Nat) (e1 : x1 = nI k) (e2 : x2 = nI r) (hk : k < mMany (I 12 2) (dn (I 12 2) 5)) (hr : r < 6) (hf : mLen (I 12 2) (dn (I 12 2) 5) k ≤ mFree (I 12 2) r)
    (h : ∀ I', kpH c I I' → mcF I I' → I' 12 2 = dLay (I 12 2) k r → Q (nI (mPts (I 12 2) (dn (I 12 2) 5) k r)) I' J) : f_X8_remember I J (fun I1 J1 => f_X8_layNow x1 x2 I1 J1 Q) := by
  refine m_remember hc ec (fun I1 k1 => ?_)
  have q : I1 12 2 = I 12 2 := k1.2.2.1
  refine m_layNow (I := I1) (by rw [q]; exact W) k r e1 e2 (by rw [q]; exact hk) hr (by rw [q]; exact hf) ?_
  rw [q]
  have z := kp_put (d' := dLay (I 12 2) k r) k1
  exact h _ z.1 z.2 (rI_same _ _ _ _)
theorem m_passC {c : Nat} {Q : MI → MJ → Prop} (W : WF (I 12 2)) (hc : c ≤ 8) (ec : I 12 0 12 = nI c) (hq : dn (I 12 2) 7 < dn (I 12 2) 1)
    (h : ∀ I', kpH c I I' → mcF I I' → I' 12 2 = dPass (I 12 2) → Q I' J) : f_X8_remember I J (fun I1 J1 => f_X8_passNow I1 J1 Q) := by
  refine m_remember hc ec (fun I1 k1 => ?_)
  have q : I1 12 2 = I 12 2 := k1.2.2.1
  refine m_passNow (I := I1) (by rw [q]; exact W) ?_ (by rw [q]; exact hq)
  rw [q]
  have z := kp_put (d' := dPass (I 12 2)) k1
  exact h _ z.1 z.2 (rI_same _ _ _ _)
theorem m_autoC {c lim : Nat} {L : List TK} {x1 : Int32} {Q : Int32 → MI → MJ → Prop} (W : WF (I 12 2)) (V : LV (I 12 2)) (T : mTok (I 12 2) L) (hc : c ≤ 8) (ec : I 12 0 12 = nI c) (e1 : x1 = nI lim) (hl : lim < 2 ^ 31)
    (h : ∀ I' J', kpH c I I' → mcF I I' → sJ2 J J' → I' 12 2 = (gon L lim 165 (I 12 2) 0).1 → Q (nI (gon L lim 165 (I 12 2) 0).2) I' J') : f_X8_remember I J (fun I1 J1 => f_X8_goOn x1 I1 J1 Q) := by
  refine m_remember hc ec (fun I1 k1 => ?_)
  have q : I1 12 2 = I 12 2 := k1.2.2.1
  refine m_goOn (I := I1) e1 hl (by rw [q]; exact W) (by rw [q]; exact T) (by rw [q]; exact V) (fun J2 hJ => ?_)
  rw [q]
  have z := kp_put (d' := (gon L lim 165 (I 12 2) 0).1) k1
  exact h _ J2 z.1 z.2 hJ (rI_same _ _ _ _)
theorem sJ2_12 {J J' : MJ} (h : sJ2 J J') : ∀ b, b ≠ 12 → J' b = J b := fun b hb => by
  funext r
  exact h b r (fun z => hb z.1)
/-- behind a change, with the field thrown as it may be -/
theorem INV_chg {I1 I2 : MI} {J1 J2 : MJ} (V : INV I J) {c nx : Nat} (H : HI I J c nx) (k1 : kcC (I 12 2) c nx I I1 J J1) (It : MI) (ht : mR I1 It J1 J1) (k2 : kpH c It I2) (m2 : mcF It I2) (hJ : ∀ b, b ≠ 12 → J2 b = J1 b)
    (W' : WF (I2 12 2)) (V' : LV (I2 12 2)) (C' : RC I1 J1 0 (I2 12 2)) : INV I2 J2 := by
  obtain ⟨⟨W, L, C⟩, -, ⟨n, B⟩, e⟩ := V
  have hn := H.2.1
  obtain ⟨t1, t2, t3, t4, t5, t6⟩ := ht
  have d1 : ∀ b, b ≠ 12 → I2 b = I1 b := fun b hb => by rw [m2.1 b hb, t1 b hb]
  have m : mcF I1 I2 := ⟨d1, by rw [m2.2.1, t2], fun i h0 h12 => by rw [m2.2.2 i h0 h12, t5 i h0]⟩
  have kk : kpH c I1 I2 := by
    obtain ⟨a1, a2, a3⟩ := k2
    rw [t3] at a2 a3
    refine ⟨a1, fun hc => ?_, fun hc => ?_⟩
    · have z := a2 hc
      exact ⟨z.1, fun k hk => by rw [z.2 k hk, t4 k (by omega)]⟩
    · have z := a3 hc
      refine ⟨z.1, fun k hk => ?_⟩
      have y := z.2 k hk
      rw [show 6 + k + 1 = 6 + (k + 1) by omega, t4 (k + 1) (by omega)] at y
      rw [show 6 + k + 1 = 6 + (k + 1) by omega]
      exact y
  exact INV_change W L H k1 kk d1 hJ W' V' C' (BU_keep hn B k1 m) (er_keep hn e k1 m)
end CH
