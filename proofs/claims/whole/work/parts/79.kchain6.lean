/-! CHAINS: the class' search, whole -/
section CZ
variable {I : MI} {J : MJ} {d : Nat → Int32} {p r : Nat}
theorem k_inits {x2 x3 : Int32} {K : MI → MJ → Prop} (W : WF d) (C : RC I J 0 d) (P : kcP d p r I) (hp : p < dn d 1) (hr : r < dn d 0) (e2 : x2 = nI p) (e3 : x3 = nI r) (s : MI) (hs : kcT d p r I (cW0 d p r 0) (cB0 d p r 0) s) (h : ∀ s', kcT d p r I (cW0 d p r (mMany d p)) (cB0 d p r (mMany d p)) s' → K s' J) : f_X0_search_L41 0 x2 x3 K (mMany d p + 1) 0 s J := by
  have p4 := wf_pls W
  have r6 := wf_rows W
  have hp4 : p < 4 := by omega
  have hr6 : r < 6 := by omega
  have w := W.2.2.2 p hp4
  have wr := W.2.2.1 r hr6
  have hfr : mFree d r ≤ 40 := by show mTil d r - mUse d r ≤ 40; omega
  refine up_inv (fun m (s : MI) j => f_X0_search_L41 0 x2 x3 K m j s J) (fun a s => kcT d p r I (cW0 d p r a) (cB0 d p r a) s) (mMany d p) (fun m s hs => ?_) (fun m s a ha hs ih => ?_) s hs
  · show f_X0_search_B41 _ _ _ _ _ _ s J
    exact q_t (by rw [hs.2.1 7 (by decide), P.1]; exact Int32.le_refl _) (h s hs)
  · show f_X0_search_B41 _ _ _ _ _ _ s J
    have Cs : RC s J 0 d := RC_blk C (by funext q; exact hs.1 0 q (by omega)) rfl
    have wa := wrd_hand W hp4 ha
    have ba := bit_one a (by omega)
    have hb : gObs d (wA p a + 1) (mLen d p a) r < 5 := by
      unfold gObs
      repeat' split
      all_goals omega
    have ptl := mPts_lt W hp4 ha hr6
    have la := ((w.2 a ha).1).2
    have lt2 : 2 ^ a < 2 ^ mMany d p := Nat.pow_lt_pow_right (by decide) ha
    refine q_f (by rw [hs.2.1 7 (by decide), P.1]; exact nge ha (by omega)) (g_wordOf W Cs p a e2 rfl hp ha (g_obstacle W Cs _ _ r wa rfl e3 hr (q_eq (gObs d (wA p a + 1) (mLen d p a) r) 0 (by omega) (by decide) rfl rfl (fun z => ?_) (fun z => ?_))))
    · have z0 : mHin d p a r = 0 := z
      refine g_pointsFor W Cs _ _ r wa rfl e3 hr (k_note (2 ^ a) a 1 (mPts d p a r) (b_shl a (by omega)) rfl rfl rfl w.1 P hs lt2 ha (by decide) (by omega) (fun t l h1 h2 => Nat.le_trans (cB0_le W hp4 hr6 h2) (by decide)) (by omega) (by rw [sBit_one a (by omega)]; omega) (fun s' S' j ej => ih s' j (kcT_congr S' (fun t l h1 h2 => ?_)) (by rw [ej, nI_1])))
      unfold cW0 cB0
      by_cases c : t = 2 ^ a ∧ l = a
      · obtain ⟨c1, c2⟩ := c
        subst c1 c2
        have y1 : 2 ^ l = 2 ^ l ∧ l < l + 1 ∧ mHin d p l r = 0 := ⟨rfl, by omega, z0⟩
        have y0 : ¬ (2 ^ l = 2 ^ l ∧ l < l ∧ mHin d p l r = 0) := fun q => absurd q.2.1 (by omega)
        have yy : 2 ^ l = 2 ^ l ∧ l = l := ⟨rfl, rfl⟩
        refine ⟨?_, ?_⟩
        · rw [if_pos y1, if_pos yy, if_neg y0]
        · rw [if_pos y1, if_pos yy, if_neg y0]
          exact (Nat.max_eq_right (Nat.zero_le _)).symm
      · rw [if_neg c, if_neg c]
        by_cases y : t = 2 ^ l ∧ l < a ∧ mHin d p l r = 0
        · rw [if_pos y, if_pos y, if_pos ⟨y.1, by omega, y.2.2⟩, if_pos ⟨y.1, by omega, y.2.2⟩]
          exact ⟨rfl, rfl⟩
        · have y2 : ¬ (t = 2 ^ l ∧ l < a + 1 ∧ mHin d p l r = 0) := fun q => by
            by_cases v : l = a
            · exact c ⟨by rw [q.1, v], v⟩
            · exact y ⟨q.1, by omega, q.2.2⟩
          rw [if_neg y, if_neg y, if_neg y2, if_neg y2]
          exact ⟨rfl, rfl⟩
    · have z0 : ¬ mHin d p a r = 0 := z
      intro j ej
      refine ih s j (kcT_congr hs (fun t l h1 h2 => ?_)) (by rw [ej, nI_1])
      unfold cW0 cB0
      by_cases y : t = 2 ^ l ∧ l < a ∧ mHin d p l r = 0
      · rw [if_pos y, if_pos y, if_pos ⟨y.1, by omega, y.2.2⟩, if_pos ⟨y.1, by omega, y.2.2⟩]
        exact ⟨rfl, rfl⟩
      · have y2 : ¬ (t = 2 ^ l ∧ l < a + 1 ∧ mHin d p l r = 0) := fun q => by
          by_cases v : l = a
          · rw [v] at q; exact z0 q.2.2
          · exact y ⟨q.1, by omega, q.2.2⟩
        rw [if_neg y, if_neg y, if_neg y2, if_neg y2]
        exact ⟨rfl, rfl⟩
theorem k_search {x2 x3 : Int32} {Q : MI → MJ → Prop} (W : WF d) (C : RC I J 0 d) (hp : p < dn d 1) (hr : r < dn d 0) (e2 : x2 = nI p) (e3 : x3 = nI r) (h : ∀ I', (∀ b' r', ¬ (b' = 11 ∧ 6 ≤ r') → I' b' r' = I b' r') → (∀ w, w ≤ 2 → I' 11 6 w = nI (chAll d p r w)) → Q I' J) : f_X0_search 0 x2 x3 I J Q := by
  have p4 := wf_pls W
  have r6 := wf_rows W
  have hp4 : p < 4 := by omega
  have hr6 : r < 6 := by omega
  have w := W.2.2.2 p hp4
  have h8 := w.1
  have p8 := pw_8 _ h8
  have sh := b_shl (mMany d p) (by omega)
  have pos := Nat.two_pow_pos (mMany d p)
  intro I1 g1 I2 g2 I3 g3
  refine k_fill (by decide) (fun I4 f4 z4 => k_fill (by decide) (fun I6 f6 z6 => ?_))
  have o3 : ∀ b' r', ¬ (b' = 11 ∧ 6 ≤ r') → I3 b' r' = I b' r' := fun b' r' n => by
    rw [g3, g2, g1]
    unfold sI
    rw [rI_ne (fun z => n ⟨z.1, by omega⟩), rI_ne (fun z => n ⟨z.1, by omega⟩), rI_ne (fun z => n ⟨z.1, by omega⟩)]
  have o6 : ∀ b' r', ¬ (b' = 11 ∧ 6 ≤ r') → I6 b' r' = I b' r' := fun b' r' n => by rw [f6 b' r' (fun z => n ⟨z.1, by omega⟩), f4 b' r' (fun z => n ⟨z.1, by omega⟩)]; exact o3 b' r' n
  have C6 : RC I6 J 0 d := RC_blk C (by funext q; exact o6 0 q (by omega)) rfl
  have zf : ∀ i, i < 3 → I6 11 6 i = 0 := fun i hi => by
    rw [f6 11 6 (by decide), f4 11 6 (by decide), g3]
    by_cases q2 : i = 2
    · rw [q2, sI_at]
    · rw [sI_ot _ _ _ _ q2, g2]
      by_cases q1 : i = 1
      · rw [q1, sI_at]
      · rw [sI_ot _ _ _ _ q1, g1, show i = 0 by omega, sI_at]
  refine k_prepare W C6 hp hr e2 e3 (fun I8 f8 l8 P => ?_)
  have o8 : ∀ b' r', ¬ (b' = 11 ∧ 6 ≤ r') → I8 b' r' = I b' r' := fun b' r' n => by rw [f8 b' r' (fun z => n ⟨z.1, by omega⟩)]; exact o6 b' r' n
  have C8 : RC I8 J 0 d := RC_blk C (by funext q; exact o8 0 q (by omega)) rfl
  have S0 : kcT d p r I8 (cW0 d p r 0) (cB0 d p r 0) I8 := by
    have zW : ∀ t l, cW0 d p r 0 t l = 0 := fun t l => if_neg (fun q => absurd q.2.1 (Nat.not_lt_zero _))
    have zB : ∀ t l, cB0 d p r 0 t l = 0 := fun t l => if_neg (fun q => absurd q.2.1 (Nat.not_lt_zero _))
    refine ⟨fun _ _ _ => rfl, fun _ _ => rfl, fun t l ht hl => ?_, fun v hv => ?_⟩
    · rw [zW, zB, f8 11 7 (by decide), f8 11 8 (by decide), z6 (8 * t + l) (by omega), f6 11 7 (by decide), z4 (8 * t + l) (by omega)]
      exact ⟨rfl, rfl⟩
    · rw [l8 v (by omega), zf v (by omega), fld_0 (fun t ht => fld_0 (fun l hl => by rw [zW, zB]; exact chG_0 _ _ _ _ _))]
      rfl
  refine ⟨mMany d p + 1, k_inits W C8 P hp hr e2 e3 I8 S0 (fun s S => ⟨_, up_invF (fun m (s : MI) j => f_X0_search_L96 0 Q m j s J) (fun t s => kcN d p r (t * 64) I8 s) 1 (2 ^ mMany d p) pos (fun m s hs => ?_) (fun m s t h1 ht hs ih => ?_) s ?_⟩)⟩
  · show f_X0_search_B96 _ _ _ _ s J
    refine q_t (by rw [hs.2.1 7 (by decide), P.1, sh]; exact Int32.le_refl _) (h s (fun b' r' n => ?_) (fun v hv => ?_))
    · rw [hs.1 b' r' (fun z => n ⟨z.1, by omega⟩)]; exact o8 b' r' n
    · rw [hs.2.2.2 v hv]
      unfold chAll
      refine congrArg nI (fld_congr _ (fun t ht => fld_congr _ (fun l hl => ?_)))
      rw [cW_full h8 hl (by omega), cB_full h8 hl (by omega)]
  · show f_X0_search_B96 _ _ _ _ s J
    exact q_f (by rw [hs.2.1 7 (by decide), P.1, sh]; exact nge ht (by omega)) (k_extend W P hp4 hr6 t h1 ht rfl s hs (fun s' S' j ej => ih s' j S' (by rw [ej, nI_1])))
  · exact kcT_congr S (fun t l h1 h2 => cW_first h8 h2)
end CZ
