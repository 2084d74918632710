/-! HOW THE GAME WOULD GO ON: winner, stepsToEnd -/
theorem gon_lim (L : List TK) {l1 l2 : Nat} : ∀ (f : Nat) (d : Nat → Int32) (c : Nat), c + f ≤ l1 → c + f ≤ l2 → gon L l1 f d c = gon L l2 f d c
  | 0, _, _, _, _ => rfl
  | f + 1, d, c, h1, h2 => by
    unfold gon
    by_cases q : dn d 6 = 0
    · rw [if_pos ⟨by omega, q⟩, if_pos ⟨by omega, q⟩]
      exact gon_lim L f _ _ (by omega) (by omega)
    · rw [if_neg (fun z => q z.2), if_neg (fun z => q z.2)]
theorem gon_ok (L : List TK) (lim : Nat) : ∀ (f : Nat) (d : Nat → Int32) (c : Nat), WF d → LV d → WF (gon L lim f d c).1 ∧ LV (gon L lim f d c).1 ∧ ∀ i, still i → (gon L lim f d c).1 i = d i
  | 0, _, _, W, V => ⟨W, V, fun _ _ => rfl⟩
  | f + 1, d, c, W, V => by
    unfold gon
    by_cases q : c < lim ∧ dn d 6 = 0
    · rw [if_pos q]
      have hq := V q.2
      have z := gon_ok L lim f (dStep d L) (c + 1) (WF_step W L hq) (LV_step W L hq)
      exact ⟨z.1, z.2.1, fun i s => (z.2.2 i s).trans (step_far W L hq s)⟩
    · rw [if_neg q]
      exact ⟨W, V, fun _ _ => rfl⟩
theorem gon_cnt (L : List TK) (lim : Nat) : ∀ (f : Nat) (d : Nat → Int32) (c : Nat), (gon L lim f d c).2 ≤ c + f
  | 0, _, _ => Nat.le_refl _
  | f + 1, d, c => by
    unfold gon
    split
    · exact Nat.le_trans (gon_cnt L lim f _ _) (by omega)
    · show c ≤ _
      omega
section FC
variable {I : MI} {J : MJ} {d : Nat → Int32}
theorem k_future {Q : Int32 → MI → MJ → Prop} (W : WF d) (V : LV d) (C : RC I J 0 d) (h : ∀ L, mTok d L → ∀ I' J', RC I' J' 1 (gon L 1000000 165 d 0).1 → fR I I' J J' → Q (nI (gon L 1000000 165 d 0).2) I' J') : f_X1_copyFrom 1 0 I J (fun I1 J1 => f_X1_playOn 1 (1000000 : Int32) I1 J1 Q) := by
  refine g_copyFrom (by decide) W C (fun I1 J1 C1 f1 f2 => ?_)
  obtain ⟨L, T, G⟩ := RK_tok C1.2.2.2.2
  refine g_playOn (lim := 1000000) rfl (by decide) W C1 T G V (fun I2 J2 C2 o2 p2 => h L T I2 J2 C2 ⟨fun b h0 h1 h11 => ?_, fun r _ _ => ?_, fun r _ => ?_, fun b hb => ?_⟩)
  · funext r; rw [o2 b r (Or.inl h1), f1 b h1]
  · rw [o2 0 r (Or.inl (by decide)), f1 0 (by decide)]
  · rw [o2 11 r (Or.inl (by decide)), f1 11 (by decide)]
  · funext r; rw [p2 b r hb, f2 b hb]
theorem k_stepsToEnd {Q : Int32 → MI → MJ → Prop} (W : WF d) (V : LV d) (C : RC I J 0 d) (h : ∀ L, mTok d L → ∀ I' J', fR I I' J J' → Q (nI (gon L 1000000 165 d 0).2) I' J') : f_X7_stepsToEnd I J Q :=
  k_future W V C (fun L T I' J' _ f => h L T I' J' f)
theorem k_winner {Q : Int32 → MI → MJ → Prop} (W : WF d) (V : LV d) (C : RC I J 0 d) (h : ∀ L, mTok d L → ∀ I' J', fR I I' J J' → Q (nI (mLead (gon L 1000000 165 d 0).1)) I' J') : f_X7_winner I J Q :=
  k_future W V C (fun L T I' J' C' f => g_leader (gon_ok L 1000000 165 d 0 W V).1 C' (h L T I' J' f))
end FC
section FM
variable {I : MI} {J : MJ}
/-- the model with its data set aside and played on -/
def asd (I I2 : MI) : Prop := (∀ i, i < 602 → I2 12 4 i = I 12 2 i) ∧ (∀ b, b ≠ 12 → I2 b = I b) ∧ I2 12 1 = I 12 1 ∧ (∀ k, k < 8 → I2 12 (6 + k) = I 12 (6 + k)) ∧ ∀ i, i ≠ 0 → I2 12 0 i = I 12 0 i
theorem m_front {L : List TK} {Q : Int32 → MI → MJ → Prop} (W : WF (I 12 2)) (V : LV (I 12 2)) (T : mTok (I 12 2) L)
    (h : ∀ I2 J2, I2 12 2 = (gon L 2147483647 165 (I 12 2) 0).1 → asd I I2 → sJ2 J J2 → Q (nI (gon L 2147483647 165 (I 12 2) 0).2) I2 J2) : f_X8_copy 12 2 1802 12 4 602 (602 : Int32) (tI I) J (fun I1 J1 => f_X8_goOn (2147483647 : Int32) I1 J1 Q) := by
  refine m_copy (n := 602) rfl (by decide) (by decide) (by decide) (by decide) (by decide) ?_
  have q2 : (rI (tI I) 12 4 (cpd (tI I 12 2) (tI I 12 4) 602)) 12 2 = I 12 2 := by rw [rI_ne (by decide)]; exact sI_ro _ _ _ _ _ (by decide)
  have q4 : ∀ i, i < 602 → (rI (tI I) 12 4 (cpd (tI I 12 2) (tI I 12 4) 602)) 12 4 i = I 12 2 i := fun i hi => by
    rw [rI_same]
    unfold cpd
    rw [if_pos hi]
    exact congrFun (sI_ro I 12 0 0 0 (by decide)) i
  have qo : ∀ b r, ¬ (b = 12 ∧ (r = 0 ∨ r = 4)) → (rI (tI I) 12 4 (cpd (tI I 12 2) (tI I 12 4) 602)) b r = I b r := fun b r hn => by
    rw [rI_ne (fun z => hn ⟨z.1, Or.inr z.2⟩)]
    exact rI_ne (fun z => hn ⟨z.1, Or.inl z.2⟩)
  have q0 : ∀ i, i ≠ 0 → (rI (tI I) 12 4 (cpd (tI I 12 2) (tI I 12 4) 602)) 12 0 i = I 12 0 i := fun i hi => by
    rw [rI_ne (by decide)]
    exact sI_ot _ _ _ _ hi
  generalize rI (tI I) 12 4 (cpd (tI I 12 2) (tI I 12 4) 602) = I2 at q2 q4 qo q0 ⊢
  refine m_goOn (lim := 2147483647) rfl (by decide) (by rw [q2]; exact W) (by rw [q2]; exact T) (by rw [q2]; exact V) (fun J2 hJ => ?_)
  rw [q2]
  refine h _ _ (rI_same _ _ _ _) ⟨fun i hi => ?_, fun b hb => ?_, ?_, fun k hk => ?_, fun i hi => ?_⟩ hJ
  · rw [rI_ne (by decide)]; exact q4 i hi
  · funext r; rw [rI_ne (fun z => hb z.1)]; exact qo b r (fun z => hb z.1)
  · rw [rI_ne (by decide)]; exact qo 12 1 (by decide)
  · rw [rI_ne (by omega)]; exact qo 12 (6 + k) (by omega)
  · rw [rI_ne (by decide)]; exact q0 i hi
theorem m_back {L : List TK} {I2 : MI} {J2 : MJ} {Q : MI → MJ → Prop} (W : WF (I 12 2)) (V : LV (I 12 2)) (hd : I2 12 2 = (gon L 2147483647 165 (I 12 2) 0).1) (A : asd I I2) (hJ : sJ2 J J2) (h : ∀ I', mR I I' J J2 → Q I' J2) : f_X8_copy 12 4 602 12 2 1802 (602 : Int32) I2 J2 Q := by
  obtain ⟨a1, a2, a3, a4, a5⟩ := A
  have far := (gon_ok L 2147483647 165 (I 12 2) 0 W V).2.2
  refine m_copy (n := 602) rfl (by decide) (by decide) (by decide) (by decide) (by decide) (h _ ⟨fun b hb => ?_, ?_, ?_, fun k hk => ?_, fun i hi => ?_, fun b hb => ?_⟩)
  · funext r; rw [rI_ne (fun z => hb z.1), a2 b hb]
  · rw [rI_ne (by decide)]; exact a3
  · rw [rI_same]
    funext i
    unfold cpd
    by_cases q : i < 602
    · rw [if_pos q]; exact a1 i q
    · rw [if_neg q, hd]; exact far i ⟨by omega, by omega, by omega, Or.inr (by omega)⟩
  · rw [rI_ne (by omega)]; exact a4 k hk
  · rw [rI_ne (by decide)]; exact a5 i hi
  · funext r; exact hJ b r (fun z => hb z.1)
theorem m_stepsToEnd {L : List TK} {Q : Int32 → MI → MJ → Prop} (W : WF (I 12 2)) (V : LV (I 12 2)) (T : mTok (I 12 2) L) (h : ∀ I' J', mR I I' J J' → Q (nI (gon L 2147483647 165 (I 12 2) 0).2) I' J') : f_X8_stepsToEnd I J Q := by
  intro I1 e1
  rw [e1]
  exact m_front W V T (fun I2 J2 hd A hJ => m_back W V hd A hJ (fun I' m => h I' J2 m))
theorem m_winner {L : List TK} {Q : Int32 → MI → MJ → Prop} (W : WF (I 12 2)) (V : LV (I 12 2)) (T : mTok (I 12 2) L) (h : ∀ I' J', mR I I' J J' → Q (nI (mLead (gon L 2147483647 165 (I 12 2) 0).1)) I' J') : f_X8_winner I J Q := by
  intro I1 e1
  rw [e1]
  refine m_front W V T (fun I2 J2 hd A hJ => m_lead (by rw [hd]; exact (gon_ok L 2147483647 165 (I 12 2) 0 W V).1) (m_back W V hd A hJ (fun I' m => ?_)))
  rw [hd]
  exact h I' J2 m
end FM
