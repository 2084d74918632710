/-! STEPS ONE BEHIND ANOTHER: the class -/
theorem gTok_oB {I I' : MI} {b : Nat} {L : List TK} (G : gTok I b L) (h : oB b I I') : gTok I' b L := by
  unfold gTok at G ⊢
  rw [h b 2 (Or.inr (Or.inl rfl)), h b 5 (Or.inr (Or.inr rfl))]
  exact G
theorem oJ.trans {b : Nat} {J J' J'' : MJ} (h : oJ b J J') (g : oJ b J' J'') : oJ b J J'' := fun b' q n => (g b' q n).trans (h b' q n)
section PO
variable {b : Nat}
theorem g_playL {K : Int32 → MI → MJ → Prop} {L : List TK} {lim : Nat} {x1 : Int32} (e1 : x1 = nI lim) (hl : lim < 2 ^ 31) : ∀ (f : Nat) (d : Nat → Int32) (c : Nat) (I : MI) (J : MJ), WF d → RC I J b d → mTok d L → gTok I b L → LV d → (dn d 6 = 0 → mu d < f) → c + f < 2 ^ 31 → (∀ I' J', RC I' J' b (gon L lim f d c).1 → oB b I I' → oJ b J J' → K (nI (gon L lim f d c).2) I' J') → f_X1_playOn_L2 b x1 K (f + 1) (nI c) I J := by
  intro f
  induction f with
  | zero =>
    intro d c I J W C T G V M hc h
    show f_X1_playOn_B2 _ _ _ _ _ I J
    have b6 : dn d 6 ≤ 1 := W.2.1.2.2.2.2.2.2.1
    have e6 : I b 0 11 = nI (dn d 6) := C.1.2.2.2.2.2.2.1.trans (wf_c W (okc_lo (i := 6) (by decide)))
    have h0 := h I J C oB.rfl (fun _ _ _ => rfl)
    exact q_eq (dn d 6) 0 (by omega) (by decide) e6 rfl (fun z => absurd (M z) (by omega)) (fun _ => h0)
  | succ f ih =>
    intro d c I J W C T G V M hc h
    show f_X1_playOn_B2 _ _ _ _ _ I J
    have b6 : dn d 6 ≤ 1 := W.2.1.2.2.2.2.2.2.1
    have e6 : I b 0 11 = nI (dn d 6) := C.1.2.2.2.2.2.2.1.trans (wf_c W (okc_lo (i := 6) (by decide)))
    unfold gon at h
    refine q_eq (dn d 6) 0 (by omega) (by decide) e6 rfl (fun z => q_le lim c hl (by omega) e1 rfl (fun q => ?_) (fun q => ?_)) (fun z => ?_)
    · rw [if_neg (by omega)] at h
      exact h I J C oB.rfl (fun _ _ _ => rfl)
    · rw [if_pos ⟨q, z⟩] at h
      have hq := V z
      refine g_stepByRank W C L T G hq (fun I' J' C' g' k' x ex => ?_)
      rw [ex, nI_1]
      refine ih (dStep d L) (c + 1) I' J' (WF_step W L hq) C' (tok_step W T hq) (gTok_oB G g') (LV_step W L hq) (fun z2 => ?_) (by omega) (fun I2 J2 C2 g2 k2 => h I2 J2 C2 (g'.trans g2) (k'.trans k2))
      have m0 := M z
      rcases mu_step W L hq with y | y
      · omega
      · omega
    · rw [if_neg (fun y => z y.2)] at h
      exact h I J C oB.rfl (fun _ _ _ => rfl)
theorem g_playOn {I : MI} {J : MJ} {d : Nat → Int32} {Q : Int32 → MI → MJ → Prop} {L : List TK} {lim : Nat} {x1 : Int32} (e1 : x1 = nI lim) (hl : lim < 2 ^ 31) (W : WF d) (C : RC I J b d) (T : mTok d L) (G : gTok I b L) (V : LV d) (h : ∀ I' J', RC I' J' b (gon L lim 165 d 0).1 → oB b I I' → oJ b J J' → Q (nI (gon L lim 165 d 0).2) I' J') : f_X1_playOn b x1 I J Q := by
  have m := mu_le W
  exact ⟨166, g_playL (K := fun x I J => Q x I J) e1 hl 165 d 0 I J W C T G V (fun _ => by omega) (by omega) h⟩
end PO
