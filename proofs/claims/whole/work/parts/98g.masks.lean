/-! THE MODEL'S CALLS THAT ASK, with their checks -/
/-- asked, and this is what was thrown -/
def mT (t : Int32) (I I' : MI) (J J' : MJ) : Prop := mR I I' J J' ∧ I' 12 0 0 = t
theorem mT_0 {I I1 : MI} {J : MJ} (e : I1 = sI I 12 0 0 0) : mT 0 I I1 J J := by
  rw [e]
  exact ⟨tI_m, sI_at _ _ _ _ _⟩
theorem mT.put {t : Int32} {I I1 : MI} {J J1 : MJ} (v : Int32) (h : mT t I I1 J J1) : mT v I (sI I1 12 0 0 v) J J1 := ⟨h.1.trans tI_m, sI_at _ _ _ _ _⟩
theorem mT.d {t : Int32} {I I1 : MI} {J J1 : MJ} (h : mT t I I1 J J1) : I1 12 2 = I 12 2 := h.1.2.2.1
theorem mT.J {t : Int32} {I I1 : MI} {J J1 J2 : MJ} (h : mT t I I1 J J1) (g : sJ2 J1 J2) : mT t I I1 J J2 := ⟨h.1.trans ⟨fun _ _ => rfl, rfl, rfl, fun _ _ => rfl, fun _ _ => rfl, sJ2_12 g⟩, h.2⟩
theorem mT.ck {t : Int32} {I I1 I2 : MI} {J J1 : MJ} (h : mT t I I1 J J1) (g : ckF I1 I2) : mT t I I2 J J1 := by
  refine ⟨h.1.trans ⟨fun b hb => by funext r; exact g b r (fun z => hb z.1), g 12 1 (by omega), g 12 2 (by omega), fun k hk => g 12 (6 + k) (by omega), fun i _ => by rw [g 12 0 (by omega)], fun _ _ => rfl⟩, ?_⟩
  rw [g 12 0 (by omega)]
  exact h.2
section MQ
variable {I : MI} {J : MJ}
theorem mc_state {x : Int32} {Q : Int32 → MI → MJ → Prop} (W : WF (I 12 2)) (h : ∀ w, w < 12 → x = nI w → ∀ I', mT 0 I I' J J → Q (mState (I 12 2) w) I' J) (g : (∀ w, w < 12 → x ≠ nI w) → ∀ I', mT 1 I I' J J → Q 0 I' J) : f_X8_state x I J Q := by
  intro I1 e1
  have t := mT_0 (J := J) e1
  rw [← t.d] at W h
  exact m_inr (n := 12) (by decide) rfl (by decide) (fun w hw e => q_f (by decide) (m_good0 t.2 (q_t rfl (m_told W w e hw (h w hw e I1 t))))) (fun z => q_t rfl (m_bad1 (by decide) t.2 (by decide) (q_f (by decide) (g z _ (t.put 1)))))
theorem mc_row {x y : Int32} {Q : Int32 → MI → MJ → Prop} (W : WF (I 12 2)) (h : ∀ r w, r < dn (I 12 2) 0 → x = nI r → w < 4 → y = nI w → ∀ I', mT 0 I I' J J → Q (mRowN (I 12 2) r w) I' J)
    (g1 : (∀ r, r < dn (I 12 2) 0 → x ≠ nI r) → ∀ I', mT 1 I I' J J → Q 0 I' J) (g2 : ∀ r, r < dn (I 12 2) 0 → x = nI r → (∀ w, w < 4 → y ≠ nI w) → ∀ I', mT 2 I I' J J → Q 0 I' J) : f_X8_row x y I J Q := by
  intro I1 e1
  have t := mT_0 (J := J) e1
  rw [← t.d] at W h g1 g2
  have b6 := wf_rows W
  refine m_noRow W t.2 (fun r hr e => q_t rfl ?_) (fun z => q_f (by decide) (g1 z _ (t.put 1)))
  exact m_inr (n := 4) (by decide) rfl (by decide) (fun w hw ew => q_f (by decide) (m_good0 t.2 (q_t rfl (m_toldRow W r w e ew (by omega) hw (h r w hr e hw ew I1 t))))) (fun z => q_t rfl (m_bad1 (by decide) t.2 (by decide) (q_f (by decide) (g2 r hr e z _ (t.put 2)))))
theorem mc_player {x y : Int32} {Q : Int32 → MI → MJ → Prop} (W : WF (I 12 2)) (h : ∀ p w, p < dn (I 12 2) 1 → x = nI p → w < 4 → y = nI w → ∀ I', mT 0 I I' J J → Q (mPlN (I 12 2) p w) I' J)
    (g1 : (∀ p, p < dn (I 12 2) 1 → x ≠ nI p) → ∀ I', mT 1 I I' J J → Q 0 I' J) (g2 : ∀ p, p < dn (I 12 2) 1 → x = nI p → (∀ w, w < 4 → y ≠ nI w) → ∀ I', mT 2 I I' J J → Q 0 I' J) : f_X8_player x y I J Q := by
  intro I1 e1
  have t := mT_0 (J := J) e1
  rw [← t.d] at W h g1 g2
  have b4 := wf_pls W
  refine m_noPlayer W t.2 (fun p hp e => q_t rfl ?_) (fun z => q_f (by decide) (g1 z _ (t.put 1)))
  exact m_inr (n := 4) (by decide) rfl (by decide) (fun w hw ew => q_f (by decide) (m_good0 t.2 (q_t rfl (m_toldPlayer W p w e ew (by omega) hw (h p w hp e hw ew I1 t))))) (fun z => q_t rfl (m_bad1 (by decide) t.2 (by decide) (q_f (by decide) (g2 p hp e z _ (t.put 2)))))
theorem mc_tile {x y : Int32} {Q : Int32 → MI → MJ → Prop} (W : WF (I 12 2)) (h : ∀ r k, r < dn (I 12 2) 0 → x = nI r → k < mTil (I 12 2) r → y = nI k → ∀ I', mT 0 I I' J J → Q (mTile (I 12 2) r k) I' J)
    (g1 : (∀ r, r < dn (I 12 2) 0 → x ≠ nI r) → ∀ I', mT 1 I I' J J → Q 0 I' J) (g2 : ∀ r, r < dn (I 12 2) 0 → x = nI r → (∀ k, k < mTil (I 12 2) r → y ≠ nI k) → ∀ I', mT 2 I I' J J → Q 0 I' J) : f_X8_tile x y I J Q := by
  intro I1 e1
  have t := mT_0 (J := J) e1
  rw [← t.d] at W h g1 g2
  have b6 := wf_rows W
  refine m_noRow W t.2 (fun r hr e => q_t rfl ?_) (fun z => q_f (by decide) (g1 z _ (t.put 1)))
  have r6 : r < 6 := by omega
  have t40 := (W.2.2.1 r r6).1
  refine m_ofRow r 0 e rfl r6 (by decide) ?_
  refine m_inr (n := mTil (I1 12 2) r) (by omega) rfl (congrArg (· - (1 : Int32)) (wf_c W (okc_row r6 (k := 0) (by decide) (by decide)))) (fun k hk ek => q_f (by decide) (m_good0 t.2 (q_t rfl (m_toldTile W r k e ek r6 (by omega) (h r k hr e hk ek I1 t))))) (fun z => q_t rfl (m_bad1 (by decide) t.2 (by decide) (q_f (by decide) (g2 r hr e z _ (t.put 2)))))
theorem mc_letter {x y u : Int32} {Q : Int32 → MI → MJ → Prop} (W : WF (I 12 2)) (h : ∀ p k j, p < dn (I 12 2) 1 → x = nI p → k < mMany (I 12 2) p → y = nI k → j < mLen (I 12 2) p k → u = nI j → ∀ I', mT 0 I I' J J → Q ((I 12 2) (wA p k + 1 + j)) I' J)
    (g1 : (∀ p, p < dn (I 12 2) 1 → x ≠ nI p) → ∀ I', mT 1 I I' J J → Q 0 I' J) (g2 : ∀ p, p < dn (I 12 2) 1 → x = nI p → (∀ k, k < mMany (I 12 2) p → y ≠ nI k) → ∀ I', mT 1 I I' J J → Q 0 I' J)
    (g3 : ∀ p k, p < dn (I 12 2) 1 → x = nI p → k < mMany (I 12 2) p → y = nI k → (∀ j, j < mLen (I 12 2) p k → u ≠ nI j) → ∀ I', mT 2 I I' J J → Q 0 I' J) : f_X8_letter x y u I J Q := by
  intro I1 e1
  have t := mT_0 (J := J) e1
  rw [← t.d] at W h g1 g2 g3
  have b4 := wf_pls W
  refine m_noWord W t.2 (fun p k hp ep hk ek => q_t rfl ?_) (fun z => q_f (by decide) (g1 z _ (t.put 1))) (fun p hp e z => q_f (by decide) (g2 p hp e z _ (t.put 1)))
  have p4 : p < 4 := by omega
  have m8 := (W.2.2.2 p p4).1
  have l8 := ((W.2.2.2 p p4).2 k hk).1
  refine m_lengthOf p k ep ek p4 (by omega) ?_
  refine m_inr (n := mLen (I1 12 2) p k) (by omega) rfl (by rw [w_len W p4 (show k < 8 by omega)]) (fun j hj ej => q_f (by decide) (m_good0 t.2 (q_t rfl (m_wordAt p k ep ek ?_)))) (fun z => q_t rfl (m_bad1 (by decide) t.2 (by decide) (q_f (by decide) (g3 p k hp ep hk ek z _ (t.put 2)))))
  have ea : nI (wA p k) + (1 : Int32) + u = nI (wA p k + 1 + j) := by rw [ej, nlit 1, nI_add, nI_add]
  refine ⟨vin (wA p k + 1 + j) 1802 (show 306 + 74 * p + 2 + 9 * k + 1 + j < 1802 by omega) (by decide) ea, ?_⟩
  rw [cln (show 306 + 74 * p + 2 + 9 * k + 1 + j < 2 ^ 31 by omega) ea]
  exact h p k j hp ep hk ek hj ej I1 t
theorem mc_alike {x y : Int32} {Q : Int32 → MI → MJ → Prop} (W : WF (I 12 2)) (h : ∀ a c, a < 26 → x = nI a → c < 26 → y = nI c → ∀ I', mT 0 I I' J J → Q (if alk (I 12 2) a c then 1 else 0) I' J)
    (g : ((∀ a, a < 26 → x ≠ nI a) ∨ (∀ c, c < 26 → y ≠ nI c)) → ∀ I', mT 1 I I' J J → Q 0 I' J) : f_X8_alike x y I J Q := by
  intro I1 e1
  have t := mT_0 (J := J) e1
  rw [← t.d] at W h
  have bad : ((∀ a, a < 26 → x ≠ nI a) ∨ (∀ c, c < 26 → y ≠ nI c)) → f_X8_alike_J26 Q x y I1 J := fun z => m_bad1 (by decide) t.2 (by decide) (q_f (by decide) (g z _ (t.put 1)))
  refine m_inr (n := 26) (by decide) rfl (by decide) (fun a ha ea => q_f (by decide) ?_) (fun z => q_t rfl (bad (Or.inl z)))
  refine m_inr (n := 26) (by decide) rfl (by decide) (fun c hc ec => q_f (by decide) (m_good0 t.2 (q_t rfl (m_areAlike W a c ea ec ha hc ?_)))) (fun z => q_t rfl (bad (Or.inr z)))
  have z := h a c ha ea hc ec I1 t
  by_cases q : alk (I1 12 2) a c = true
  · rw [if_pos q] at z ⊢
    exact q_f (by decide) z
  · rw [if_neg q] at z ⊢
    exact q_t rfl z
theorem mc_rhyme {x y u : Int32} {Q : Int32 → MI → MJ → Prop} (W : WF (I 12 2)) (h : ∀ p k r, p < dn (I 12 2) 1 → x = nI p → k < mMany (I 12 2) p → y = nI k → r < dn (I 12 2) 0 → u = nI r → ∀ I', mT 0 I I' J J → Q (if mWds (I 12 2) r = 0 then -1 else nI (mRh (I 12 2) p k r)) I' J)
    (g1 : (∀ p, p < dn (I 12 2) 1 → x ≠ nI p) → ∀ I', mT 1 I I' J J → Q 0 I' J) (g2 : ∀ p, p < dn (I 12 2) 1 → x = nI p → (∀ k, k < mMany (I 12 2) p → y ≠ nI k) → ∀ I', mT 1 I I' J J → Q 0 I' J)
    (g3 : ∀ p k, p < dn (I 12 2) 1 → x = nI p → k < mMany (I 12 2) p → y = nI k → (∀ r, r < dn (I 12 2) 0 → u ≠ nI r) → ∀ I', mT 1 I I' J J → Q 0 I' J) : f_X8_rhyme x y u I J Q := by
  intro I1 e1
  have t := mT_0 (J := J) e1
  rw [← t.d] at W h g1 g2 g3
  have b4 := wf_pls W
  have b6 := wf_rows W
  refine m_noWord W t.2 (fun p k hp ep hk ek => q_t rfl ?_) (fun z => q_f (by decide) (g1 z _ (t.put 1))) (fun p hp e z => q_f (by decide) (g2 p hp e z _ (t.put 1)))
  refine m_noRow W t.2 (fun r hr er => q_t rfl ?_) (fun z => q_f (by decide) (g3 p k hp ep hk ek z _ (t.put 1)))
  have r6 : r < 6 := by omega
  have ew := wf_c W (okc_row r6 (k := 2) (by decide) (by decide))
  have hw : mWds (I1 12 2) r < 1048576 := wf_b W (okc_row r6 (k := 2) (by decide) (by decide))
  have z := h p k r hp ep hk ek hr er I1 t
  refine m_ofRow r 2 er rfl r6 (by decide) (q_eq (mWds (I1 12 2) r) 0 (by omega) (by decide) ew rfl (fun q => ?_) (fun q => m_rhymeWith W p k r ep ek er (by omega) hk r6 ?_))
  · rw [if_pos q] at z; exact z
  · rw [if_neg q] at z; exact z
theorem mc_why {x y : Int32} {Q : Int32 → MI → MJ → Prop} (W : WF (I 12 2)) (h : ∀ k r, k < mMany (I 12 2) (dn (I 12 2) 5) → x = nI k → r < dn (I 12 2) 0 → y = nI r → ∀ I', mT 0 I I' J J → Q (nI (mRef (I 12 2) k r)) I' J)
    (g1 : (∀ k, k < mMany (I 12 2) (dn (I 12 2) 5) → x ≠ nI k) → ∀ I', mT 1 I I' J J → Q 0 I' J) (g2 : ∀ k, k < mMany (I 12 2) (dn (I 12 2) 5) → x = nI k → (∀ r, r < dn (I 12 2) 0 → y ≠ nI r) → ∀ I', mT 1 I I' J J → Q 0 I' J) : f_X8_why x y I J Q := by
  intro I1 e1
  have t := mT_0 (J := J) e1
  rw [← t.d] at W h g1 g2
  have b6 := wf_rows W
  exact m_noPlay W t.2 (fun k r hk ek hr er => q_t rfl (m_refusal W k r ek er hk (by omega) (h k r hk ek hr er I1 t))) (fun z => q_f (by decide) (g1 z _ (t.put 1))) (fun k hk ek z => q_f (by decide) (g2 k hk ek z _ (t.put 1)))
theorem mc_play {x y u : Int32} {L : List TK} {Q : Int32 → MI → MJ → Prop} (W : WF (I 12 2)) (T : mTok (I 12 2) L)
    (h0 : ∀ k r, k < mMany (I 12 2) (dn (I 12 2) 5) → x = nI k → r < dn (I 12 2) 0 → y = nI r → u = 0 → mRef (I 12 2) k r = 0 → ∀ I', mT 0 I I' J J → Q (nI (mPts (I 12 2) (dn (I 12 2) 5) k r)) I' J)
    (h1 : ∀ k r, k < mMany (I 12 2) (dn (I 12 2) 5) → x = nI k → r < dn (I 12 2) 0 → y = nI r → u = 1 → mRef (I 12 2) k r = 0 → ∀ (v : Int32) I' J', mT 0 I I' J J' → v.toInt = mRank (I 12 2) L k r → Q v I' J')
    (g1 : (∀ k, k < mMany (I 12 2) (dn (I 12 2) 5) → x ≠ nI k) → ∀ I', mT 1 I I' J J → Q 0 I' J) (g2 : ∀ k, k < mMany (I 12 2) (dn (I 12 2) 5) → x = nI k → (∀ r, r < dn (I 12 2) 0 → y ≠ nI r) → ∀ I', mT 1 I I' J J → Q 0 I' J)
    (g3 : ∀ k r, k < mMany (I 12 2) (dn (I 12 2) 5) → x = nI k → r < dn (I 12 2) 0 → y = nI r → (∀ w, w < 2 → u ≠ nI w) → ∀ I', mT 2 I I' J J → Q 0 I' J)
    (g4 : ∀ k r w, k < mMany (I 12 2) (dn (I 12 2) 5) → x = nI k → r < dn (I 12 2) 0 → y = nI r → w < 2 → u = nI w → mRef (I 12 2) k r ≠ 0 → ∀ I', mT 3 I I' J J → Q 0 I' J) : f_X8_play x y u I J Q := by
  intro I1 e1
  have t := mT_0 (J := J) e1
  rw [← t.d] at W T h0 h1 g1 g2 g3 g4
  have b6 := wf_rows W
  have c5 : (5 : Int32).toNatClampNeg = 5 := by decide
  have e5 : I1 12 2 5 = nI (dn (I1 12 2) 5) := wf_c W (okc_lo (i := 5) (by decide))
  have t5 := wf_turn W
  refine m_noPlay W t.2 (fun k r hk ek hr er => q_t rfl ?_) (fun z => q_f (by decide) (g1 z _ (t.put 1))) (fun k hk ek z => q_f (by decide) (g2 k hk ek z _ (t.put 1)))
  have r6 : r < 6 := by omega
  refine m_inr (n := 2) (by decide) rfl (by decide) (fun w hw ew => q_f (by decide) (m_good0 t.2 (q_t rfl (m_refusal W k r ek er hk r6 ?_)))) (fun z => q_t rfl (m_bad1 (by decide) t.2 (by decide) (q_f (by decide) (g3 k r hk ek hr er z _ (t.put 2)))))
  have lt := mRef_lt (I1 12 2) k r
  refine q_eq (mRef (I1 12 2) k r) 0 (by omega) (by decide) rfl rfl (fun q => m_good0 t.2 (q_t rfl ?_)) (fun q => m_bad1 (by decide) t.2 (by decide) (q_f (by decide) (g4 k r w hk ek hr er hw ew q _ (t.put 3))))
  refine q_eq w 0 (by omega) (by decide) ew rfl (fun q0 => ⟨vin 5 1802 (by decide) (by decide) rfl, ?_⟩) (fun q1 => m_rankOf W L T k r ek er hk r6 (mRef_fit q) (fun v J2 hJ hv => h1 k r hk ek hr er (by rw [ew, show w = 1 by omega]; rfl) q v I1 J2 (t.J hJ) hv))
  rw [c5]
  exact m_pointsFor W (dn (I1 12 2) 5) k r e5 ek er (by omega) hk r6 (h0 k r hk ek hr er (by rw [ew, q0]; rfl) q I1 t)
theorem mc_chains {x y u : Int32} {w : Nat} {Q : Int32 → MI → MJ → Prop} (W : WF (I 12 2)) (hw : w ≤ 2) (eu : u = nI w)
    (h : ∀ p r, p < dn (I 12 2) 1 → x = nI p → r < dn (I 12 2) 0 → y = nI r → ∀ I', mT 0 I I' J J → Q (if w = 2 ∧ mFree (I 12 2) r = 0 then 1 else nI (chAll (I 12 2) p r w)) I' J)
    (g1 : (∀ p, p < dn (I 12 2) 1 → x ≠ nI p) → ∀ I', mT 1 I I' J J → Q 0 I' J) (g2 : ∀ p, p < dn (I 12 2) 1 → x = nI p → (∀ r, r < dn (I 12 2) 0 → y ≠ nI r) → ∀ I', mT 1 I I' J J → Q 0 I' J) : f_X8_chains x y u I J Q := by
  intro I1 e1
  have t := mT_0 (J := J) e1
  rw [← t.d] at W h g1 g2
  have b4 := wf_pls W
  have b6 := wf_rows W
  refine m_noPlayer W t.2 (fun p hp ep => q_t rfl ?_) (fun z => q_f (by decide) (g1 z _ (t.put 1)))
  refine m_noRow W t.2 (fun r hr er => q_t rfl ?_) (fun z => q_f (by decide) (g2 p hp ep z _ (t.put 1)))
  have r6 : r < 6 := by omega
  have hfr : mFree (I1 12 2) r ≤ 40 := by have := (W.2.2.1 r r6).1; show _ - _ ≤ _; omega
  have ch : ¬ (w = 2 ∧ mFree (I1 12 2) r = 0) → f_X8_chains_J42 Q x y u I1 J := fun q => m_ofChains rfl W p r w (by omega) r6 hw ep er eu (fun s' f => by
    have z := h p r hp ep hr er s' (t.ck f)
    rw [if_neg q] at z
    exact z)
  refine q_eq w 2 (by omega) (by decide) eu rfl (fun q => m_free W r er r6 (q_eq (mFree (I1 12 2) r) 0 (by omega) (by decide) rfl rfl (fun q0 => ?_) (fun q0 => ch (fun z => q0 z.2)))) (fun q => ch (fun z => q z.1))
  have z := h p r hp ep hr er I1 t
  rw [if_pos ⟨q, q0⟩] at z
  exact z
theorem mc_threats {x : Int32} {Q : Int32 → MI → MJ → Prop} (W : WF (I 12 2)) (h : ∀ r, r < dn (I 12 2) 0 → x = nI r → ∀ I', mT 0 I I' J J → Q (nI (thr (I 12 2) r (dn (I 12 2) 1))) I' J)
    (g1 : (∀ r, r < dn (I 12 2) 0 → x ≠ nI r) → ∀ I', mT 1 I I' J J → Q 0 I' J) : f_X8_threats x I J Q := by
  intro I1 e1
  have t := mT_0 (J := J) e1
  rw [← t.d] at W h g1
  have b6 := wf_rows W
  exact m_noRow W t.2 (fun r hr er => q_t rfl (m_threats W r er (by omega) (h r hr er I1 t))) (fun z => q_f (by decide) (g1 z _ (t.put 1)))
end MQ
