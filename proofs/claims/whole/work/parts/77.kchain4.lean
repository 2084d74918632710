/-! CHAINS: what the class prepares -/
section CP
variable {I : MI} {J : MJ} {d : Nat → Int32} {p r : Nat}
theorem k_fill {b1 r1 n1 : Nat} {x : Int32} {Q : MI → MJ → Prop} (hn : n1 < 2 ^ 31) (h : ∀ I', (∀ b' r', ¬ (b' = b1 ∧ r' = r1) → I' b' r' = I b' r') → (∀ i, i < n1 → I' b1 r1 i = x) → Q I' J) : f_J7_fill_53178 b1 r1 n1 x I J Q := by
  intro x3 e3
  refine ⟨n1 + 1, up_inv (fun m (s : MI) j => f_J7_fill_53178_L5 b1 r1 n1 x x3 Q m j s J) (fun i s => (∀ b' r', ¬ (b' = b1 ∧ r' = r1) → s b' r' = I b' r') ∧ ∀ k, k < i → s b1 r1 k = x) n1 (fun m s hs => ?_) (fun m s i hi hs ih => ?_) I ⟨fun _ _ _ => rfl, fun k hk => absurd hk (Nat.not_lt_zero k)⟩⟩
  · show f_J7_fill_53178_B5 _ _ _ _ _ _ _ _ s J
    exact q_t (by rw [e3]; exact Int32.le_refl _) (h s hs.1 hs.2)
  · show f_J7_fill_53178_B5 _ _ _ _ _ _ _ _ s J
    refine q_f (by rw [e3]; exact nge hi hn) ⟨vin i n1 hi hn rfl, fun s2 e2 j ej => ih s2 j ⟨fun b' r' n => ?_, fun k hk => ?_⟩ (by rw [ej, nI_1])⟩
    · rw [e2]
      unfold sI
      rw [rI_ne n]
      exact hs.1 b' r' n
    · rw [e2, nI_clamp (by omega)]
      by_cases q : k = i
      · rw [q, sI_at]
      · rw [sI_ot _ _ _ _ q]; exact hs.2 k (by omega)
def chE (d : Nat → Int32) (p a b : Nat) : Int32 := if chF d p a b then nI (chR d p a b) else -1
def prI (d : Nat → Int32) (p a b : Nat) (I s : MI) : Prop := (∀ b' r', ¬ (b' = 11 ∧ (r' = 9 ∨ r' = 10)) → s b' r' = I b' r') ∧ (∀ a' b', a' < a → b' < mMany d p → s 11 10 (8 * a' + b') = chE d p a' b') ∧ ∀ b', b' < b → s 11 10 (8 * a + b') = chE d p a b'
theorem k_prep87 {x2 x4 : Int32} {x5 : Int64} {K : MI → MJ → Prop} (W : WF d) (C : RC I J 0 d) (hp : p < dn d 1) (e7 : I 11 6 7 = nI (mMany d p)) (a : Nat) (e2 : x2 = nI p) (e4 : x4 = nI a) (e5 : x5 = lN (pkN d (wA p a + 1) (mLen d p a))) (ha : a < mMany d p) (s : MI) (hs : prI d p a 0 I s) (h : ∀ s', prI d p (a + 1) 0 I s' → s' 11 9 = s 11 9 → K s' J) : f_X0_prepare_L87 0 x2 x4 x5 K (mMany d p + 1) 0 s J := by
  have p4 := wf_pls W
  have w := W.2.2.2 p (by omega)
  have wa := wrd_hand W (show p < 4 by omega) ha
  have b2 : dn d 2 ≤ 4 := W.2.1.2.2.1.2
  subst e5
  refine up_inv (fun m (s' : MI) j => f_X0_prepare_L87 0 x2 x4 (lN (pkN d (wA p a + 1) (mLen d p a))) K m j s' J) (fun b s' => prI d p a b I s' ∧ s' 11 9 = s 11 9) (mMany d p) (fun m s' hs' => ?_) (fun m s' b hb hs' ih => ?_) s ⟨hs, rfl⟩
  · show f_X0_prepare_B87 _ _ _ _ _ _ _ s' J
    obtain ⟨⟨f, o1, o2⟩, h9⟩ := hs'
    refine q_t (by rw [f 11 6 (by decide), e7]; exact Int32.le_refl _) (h s' ⟨f, fun a' b' h1 h2 => ?_, fun b' hb' => absurd hb' (Nat.not_lt_zero _)⟩ h9)
    by_cases q : a' = a
    · subst q; exact o2 b' h2
    · exact o1 a' b' (by omega) h2
  · show f_X0_prepare_B87 _ _ _ _ _ _ _ s' J
    obtain ⟨⟨f, o1, o2⟩, h9⟩ := hs'
    have C' : RC s' J 0 d := RC_blk C (by funext q; exact f 0 q (by omega)) rfl
    have wb := wrd_hand W (show p < 4 by omega) hb
    have hR := rh_le d (wA p a + 1) (mLen d p a) (wA p b + 1) (mLen d p b)
    have hb8 := wb.1
    have e15 : s' 0 1 5 = nI (dn d 2) := C'.1.2.2.1.trans (wf_c W (okc_lo (i := 2) (by decide)))
    have ei : (x4 * (8 : Int32)) + nI b = nI (8 * a + b) := by rw [e4, nlit 8, nmul, nI_add, Nat.mul_comm]
    have vi : vp_in ((x4 * (8 : Int32)) + nI b) 64 := vin _ _ (by omega) (by decide) ei
    have ci : ((x4 * (8 : Int32)) + nI b).toNatClampNeg = 8 * a + b := cln (by omega) ei
    have nx : ∀ (s2 : MI) (v j : Int32), s2 = sI s' 11 10 (8 * a + b) v → v = chE d p a b → j = nI b + 1 → f_X0_prepare_L87 0 x2 x4 (lN (pkN d (wA p a + 1) (mLen d p a))) K m j s2 J := fun s2 v j e ev ej => ih s2 j ⟨⟨fun b' r' n => by
        rw [e]
        unfold sI
        rw [rI_ne (fun z => n ⟨z.1, Or.inr z.2⟩)]
        exact f b' r' n, fun a' b' h1 h2 => by rw [e, sI_ot _ _ _ _ (by omega)]; exact o1 a' b' h1 h2, fun b' hb' => by
        by_cases q : b' = b
        · rw [q, e, sI_at]; exact ev
        · rw [e, sI_ot _ _ _ _ (by omega)]; exact o2 b' (by omega)⟩, by rw [e, sI_ro _ _ _ _ _ (by decide)]; exact h9⟩ (by rw [ej, nI_1])
    have j0 : chF d p a b = false → ∀ x10 : Int32, f_X0_prepare_J143 0 K (f_X0_prepare_L87 0 x2 x4 (lN (pkN d (wA p a + 1) (mLen d p a))) K m) x2 x4 (lN (pkN d (wA p a + 1) (mLen d p a))) (nI b) x10 0 s' J := fun z x10 => q_t rfl ⟨vi, fun s2 e2 j ej => by
      rw [ci] at e2
      exact nx s2 _ j e2 (by unfold chE; rw [z]; rfl) ej⟩
    refine q_f (by rw [f 11 6 (by decide), e7]; exact nge hb (by omega)) (g_wordOf W C' p b e2 rfl hp hb (k_rhymeOf C'.2.1 _ _ _ _ wa wb rfl rfl ?_))
    have hsame := k_same wa wb
    refine ⟨fun q => j0 ?_ _, fun q => q_lt _ (dn d 2) (by omega) (by omega) rfl e15 (fun z => j0 ?_ _) (fun z => ?_)⟩
    · unfold chF; rw [hsame.mp q]; rfl
    · unfold chF chR; rw [decide_eq_false (by omega), Bool.and_false]
    · have hF : chF d p a b = true := by
        unfold chF chR
        rw [Bool.eq_false_iff.mpr (fun y => q (hsame.mpr y)), decide_eq_true z]
        rfl
      refine q_f (by decide) ⟨vi, fun s2 e2 j ej => ?_⟩
      rw [ci] at e2
      exact nx s2 _ j e2 (by unfold chE; rw [if_pos hF]; rfl) ej
theorem k_prepare {x2 x3 : Int32} {Q : MI → MJ → Prop} (W : WF d) (C : RC I J 0 d) (hp : p < dn d 1) (hr : r < dn d 0) (e2 : x2 = nI p) (e3 : x3 = nI r) (h : ∀ I', (∀ b' r', ¬ (b' = 11 ∧ (r' = 6 ∨ r' = 9 ∨ r' = 10)) → I' b' r' = I b' r') → (∀ i, i < 3 → I' 11 6 i = I 11 6 i) → kcP d p r I' → Q I' J) : f_X0_prepare 0 x2 x3 I J Q := by
  have p4 := wf_pls W
  have r6 := wf_rows W
  have w := W.2.2.2 p (by omega)
  refine ⟨vin p 4 (by omega) (by decide) e2, fun I2 g2 => ?_⟩
  rw [cln (by omega) e2, e_many W C hp] at g2
  have C2 : RC I2 J 0 d := RC_blk C (by rw [g2]; unfold sI; funext q; exact rI_ne (by omega)) rfl
  refine g_free W C2 r e3 hr (fun I6 g6 => ⟨vin r 6 (by omega) (by decide) e3, fun I8 g8 I9 g9 I10 g10 => ?_⟩)
  have o6 : ∀ b' r', ¬ (b' = 11 ∧ r' = 6) → I6 b' r' = I b' r' := fun b' r' n => by rw [g6, g2]; unfold sI; rw [rI_ne n, rI_ne n]
  have o8 : ∀ b' r', ¬ (b' = 11 ∧ r' = 6) → I8 b' r' = I b' r' := fun b' r' n => by rw [g8]; unfold sI; rw [rI_ne n]; exact o6 b' r' n
  have o9 : ∀ b' r', ¬ (b' = 11 ∧ r' = 6) → I9 b' r' = I b' r' := fun b' r' n => by rw [g9]; unfold sI; rw [rI_ne n]; exact o8 b' r' n
  have o10 : ∀ b' r', ¬ (b' = 11 ∧ r' = 6) → I10 b' r' = I b' r' := fun b' r' n => by rw [g10]; unfold sI; rw [rI_ne n]; exact o9 b' r' n
  have cr := C.2.2.1 r hr
  rw [cln (by omega) e3, o6 0 9 (by decide), cr.2.2.1, wf_c W (okc_row (by omega) (k := 2) (by decide) (by decide))] at g8
  rw [o8 0 1 (by decide), C.1.2.2.2.1, wf_c W (okc_lo (i := 3) (by decide))] at g9
  rw [o9 0 1 (by decide), C.1.2.2.2.2.1, wf_c W (okc_lo (i := 4) (by decide))] at g10
  have a7 : I10 11 6 7 = nI (mMany d p) := by rw [g10, sI_ot _ _ _ _ (by decide), g9, sI_ot _ _ _ _ (by decide), g8, sI_ot _ _ _ _ (by decide), g6, sI_ot _ _ _ _ (by decide), g2, sI_at]
  have a8 : I10 11 6 8 = nI (mFree d r) := by rw [g10, sI_ot _ _ _ _ (by decide), g9, sI_ot _ _ _ _ (by decide), g8, sI_ot _ _ _ _ (by decide), g6, sI_at]
  have a9 : I10 11 6 9 = nI (mWds d r) := by rw [g10, sI_ot _ _ _ _ (by decide), g9, sI_ot _ _ _ _ (by decide), g8, sI_at]
  have a10 : I10 11 6 10 = nI (dn d 3) := by rw [g10, sI_ot _ _ _ _ (by decide), g9, sI_at]
  have a11 : I10 11 6 11 = nI (dn d 4) := by rw [g10, sI_at]
  have lo : ∀ i, i < 3 → I10 11 6 i = I 11 6 i := fun i hi => by rw [g10, sI_ot _ _ _ _ (by omega), g9, sI_ot _ _ _ _ (by omega), g8, sI_ot _ _ _ _ (by omega), g6, sI_ot _ _ _ _ (by omega), g2, sI_ot _ _ _ _ (by omega)]
  have C10 : RC I10 J 0 d := RC_blk C (by funext q; exact o10 0 q (by omega)) rfl
  refine ⟨mMany d p + 1, up_inv (fun m (s : MI) j => f_X0_prepare_L54 0 x2 Q m j s J) (fun a s => prI d p a 0 I10 s ∧ ∀ k, k < a → s 11 9 k = nI (mLen d p k)) (mMany d p) (fun m s hs => ?_) (fun m s a ha hs ih => ?_) I10 ⟨⟨fun _ _ _ => rfl, fun a' b' h1 => absurd h1 (Nat.not_lt_zero _), fun b' h1 => absurd h1 (Nat.not_lt_zero _)⟩, fun k hk => absurd hk (Nat.not_lt_zero _)⟩⟩
  · show f_X0_prepare_B54 _ _ _ _ _ s J
    obtain ⟨⟨f, o1, o2⟩, h9⟩ := hs
    have f6 : s 11 6 = I10 11 6 := f 11 6 (by decide)
    refine q_t (by rw [f6, a7]; exact Int32.le_refl _) (h s (fun b' r' n => ?_) (fun i hi => by rw [f6]; exact lo i hi) ⟨by rw [f6]; exact a7, by rw [f6]; exact a8, by rw [f6]; exact a9, by rw [f6]; exact a10, by rw [f6]; exact a11, h9, fun a b h1 h2 => o1 a b h1 h2⟩)
    rw [f b' r' (fun z => n ⟨z.1, by omega⟩)]
    exact o10 b' r' (fun z => n ⟨z.1, Or.inl z.2⟩)
  · show f_X0_prepare_B54 _ _ _ _ _ s J
    obtain ⟨⟨f, o1, o2⟩, h9⟩ := hs
    have Cs : RC s J 0 d := RC_blk C10 (by funext q; exact f 0 q (by omega)) rfl
    have wa := wrd_hand W (show p < 4 by omega) ha
    refine q_f (by rw [f 11 6 (by decide), a7]; exact nge ha (by omega)) (g_wordOf W Cs p a e2 rfl hp ha (k_len _ _ wa rfl ⟨vin a 8 (by omega) (by decide) rfl, fun s2 es2 => ⟨mMany d p + 1, ?_⟩⟩))
    rw [nI_clamp (show a < 2 ^ 31 by omega)] at es2
    refine k_prep87 W C10 hp a7 a e2 rfl rfl ha s2 ⟨fun b' r' n => ?_, fun a' b' h1 h2 => ?_, fun b' h1 => absurd h1 (Nat.not_lt_zero _)⟩ (fun s3 g3 e9 j ej => ih s3 j ⟨g3, fun k hk => ?_⟩ (by rw [ej, nI_1]))
    · rw [es2]
      unfold sI
      rw [rI_ne (fun z => n ⟨z.1, Or.inl z.2⟩)]
      exact f b' r' n
    · rw [es2, sI_ro _ _ _ _ _ (by decide)]; exact o1 a' b' h1 h2
    · rw [e9, es2]
      by_cases q : k = a
      · rw [q, sI_at]
      · rw [sI_ot _ _ _ _ q]; exact h9 k (by omega)
end CP
