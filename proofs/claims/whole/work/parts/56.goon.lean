/-! STEPS ONE BEHIND ANOTHER: the model -/
def gon (L : List TK) (lim : Nat) : Nat → (Nat → Int32) → Nat → (Nat → Int32) × Nat
  | 0, d, c => (d, c)
  | f + 1, d, c => if c < lim ∧ dn d 6 = 0 then gon L lim f (dStep d L) (c + 1) else (d, c)
section GO
variable {I : MI}
theorem m_goL {K : Int32 → MI → MJ → Prop} {L : List TK} {lim : Nat} {x1 : Int32} (e1 : x1 = nI lim) (hl : lim < 2 ^ 31) : ∀ (f : Nat) (d : Nat → Int32) (c : Nat) (J : MJ), WF d → mTok d L → LV d → (dn d 6 = 0 → mu d < f) → c + f < 2 ^ 31 → (∀ J2, sJ2 J J2 → K (nI (gon L lim f d c).2) (rI I 12 2 (gon L lim f d c).1) J2) → f_X8_goOn_L2 x1 K (f + 1) (nI c) (rI I 12 2 d) J := by
  intro f
  induction f with
  | zero =>
    intro d c J W T V M hc h
    show f_X8_goOn_B2 _ _ _ _ _ J
    have b6 : dn d 6 ≤ 1 := W.2.1.2.2.2.2.2.2.1
    have e6 : (rI I 12 2 d) 12 2 (6 : Int32).toNatClampNeg = nI (dn d 6) := by rw [rI_same]; exact wf_c W (okc_lo (i := 6) (by decide))
    have h0 := h J sJ2.rfl
    exact q_le lim c hl (by omega) e1 rfl (fun _ => h0) (fun _ => ⟨vin 6 _ (by decide) (by decide) rfl, q_eq (dn d 6) 0 (by omega) (by decide) e6 rfl (fun z => absurd (M z) (by omega)) (fun _ => h0)⟩)
  | succ f ih =>
    intro d c J W T V M hc h
    show f_X8_goOn_B2 _ _ _ _ _ J
    have b6 : dn d 6 ≤ 1 := W.2.1.2.2.2.2.2.2.1
    have e6 : (rI I 12 2 d) 12 2 (6 : Int32).toNatClampNeg = nI (dn d 6) := by rw [rI_same]; exact wf_c W (okc_lo (i := 6) (by decide))
    unfold gon at h
    refine q_le lim c hl (by omega) e1 rfl (fun q => ?_) (fun q => ⟨vin 6 _ (by decide) (by decide) rfl, q_eq (dn d 6) 0 (by omega) (by decide) e6 rfl (fun z => ?_) (fun z => ?_)⟩)
    · rw [if_neg (by omega)] at h
      exact h J sJ2.rfl
    · rw [if_pos ⟨q, z⟩] at h
      have hq := V z
      refine m_step (I := rI I 12 2 d) (by rw [rI_same]; exact W) L (by rw [rI_same]; exact T) (by rw [rI_same]; exact hq) (fun J2 hJ x ex => ?_)
      rw [rI_same, rI_rI, ex, nI_1]
      refine ih (dStep d L) (c + 1) J2 (WF_step W L hq) (tok_step W T hq) (LV_step W L hq) (fun z2 => ?_) (by omega) (fun J3 h3 => h J3 (fun b r n => (h3 b r n).trans (hJ b r n)))
      have m0 := M z
      rcases mu_step W L hq with y | y
      · omega
      · omega
    · rw [if_neg (fun y => z y.2)] at h
      exact h J sJ2.rfl
theorem m_goOn {J : MJ} {Q : Int32 → MI → MJ → Prop} {L : List TK} {lim : Nat} {x1 : Int32} (e1 : x1 = nI lim) (hl : lim < 2 ^ 31) (W : WF (I 12 2)) (T : mTok (I 12 2) L) (V : LV (I 12 2)) (h : ∀ J2, sJ2 J J2 → Q (nI (gon L lim 165 (I 12 2) 0).2) (rI I 12 2 (gon L lim 165 (I 12 2) 0).1) J2) : f_X8_goOn x1 I J Q := by
  have m := mu_le W
  have g := m_goL (I := I) (K := fun x I J => Q x I J) e1 hl 165 (I 12 2) 0 J W T V (fun _ => by omega) (by omega) h
  rw [rI_id] at g
  exact ⟨166, g⟩
end GO
