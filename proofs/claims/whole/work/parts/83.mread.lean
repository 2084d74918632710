/-! THE MODEL READS: bytes and tokens -/
/-- the model's reader stands at i, and all was right so far -/
def MA (tx : Nat → Nat) (n i : Nat) (I : MI) : Prop := n ≤ 600 ∧ i ≤ n ∧ I 12 0 3 = nI n ∧ I 12 0 4 = nI i ∧ (∀ k, k < n → I 12 1 k = nI (tx k) ∧ tx k < 256) ∧ I 12 0 5 = 0
/-- only the place and the number's start may have changed -/
def mo (I I' : MI) : Prop := (∀ b r, ¬ (b = 12 ∧ r = 0) → I' b r = I b r) ∧ ∀ k, k ≠ 4 → k ≠ 13 → I' 12 0 k = I 12 0 k
/-- an error is reported -/
def ME (c : Int32) (o : Nat) (I I' : MI) : Prop := (∀ b r, ¬ (b = 12 ∧ (r = 0 ∨ r = 3)) → I' b r = I b r) ∧ I' 12 0 5 = c ∧ I' 12 0 6 = nI o ∧ ¬ c = 0 ∧ ∀ k, (k ≤ 2 ∨ (7 ≤ k ∧ k ≤ 12)) → I' 12 0 k = I 12 0 k
theorem mo.rfl {I : MI} : mo I I := ⟨fun _ _ _ => Eq.refl _, fun _ _ _ => Eq.refl _⟩
theorem mo.trans {I I' I'' : MI} (h : mo I I') (g : mo I' I'') : mo I I'' := ⟨fun b r n => (g.1 b r n).trans (h.1 b r n), fun k a b => (g.2 k a b).trans (h.2 k a b)⟩
theorem mo.ME {I I' I'' : MI} {c : Int32} {o : Nat} (h : mo I I') (g : ME c o I' I'') : ME c o I I'' := ⟨fun b r n => (g.1 b r n).trans (h.1 b r (fun z => n ⟨z.1, Or.inl z.2⟩)), g.2.1, g.2.2.1, g.2.2.2.1, fun k hk => (g.2.2.2.2 k hk).trans (h.2 k (by omega) (by omega))⟩
theorem mo_put {I I' : MI} {k : Nat} {v : Int32} (hk : k = 4 ∨ k = 13) (e : I' = sI I 12 0 k v) : mo I I' :=
  ⟨fun b r n => by rw [e]; unfold sI; exact rI_ne n, fun q a b => by rw [e]; exact sI_ot _ _ _ _ (by omega)⟩
theorem MA_put {tx : Nat → Nat} {n i i' : Nat} {I I' : MI} {v : Int32} (h : MA tx n i I) (hi : i' ≤ n) (e : I' = sI I 12 0 4 v) (ev : v = nI i') : MA tx n i' I' := by
  obtain ⟨h1, h2, h3, h4, h5, h6⟩ := h
  exact ⟨h1, hi, by rw [e, sI_ot _ _ _ _ (by decide)]; exact h3, by rw [e, sI_at]; exact ev, fun k hk => by rw [e, sI_ro _ _ _ _ _ (by decide)]; exact h5 k hk, by rw [e, sI_ot _ _ _ _ (by decide)]; exact h6⟩
theorem MA_keep {tx : Nat → Nat} {n i : Nat} {I I' : MI} (h : MA tx n i I) (h3 : I' 12 0 3 = I 12 0 3) (h4 : I' 12 0 4 = I 12 0 4) (h5 : I' 12 0 5 = I 12 0 5) (h1 : I' 12 1 = I 12 1) : MA tx n i I' :=
  ⟨h.1, h.2.1, h3.trans h.2.2.1, h4.trans h.2.2.2.1, fun k hk => by rw [h1]; exact h.2.2.2.2.1 k hk, h5.trans h.2.2.2.2.2⟩
section MRD
variable {I : MI} {J : MJ} {tx : Nat → Nat} {n i : Nat}
theorem MA_bt (h : MA tx n i I) {k : Nat} (hk : k < n) : I 12 1 k = nI (bt tx n k) ∧ bt tx n k < 256 := by
  rw [bt_in hk]
  exact h.2.2.2.2.1 k hk
theorem MA_le (h : MA tx n i I) (k : Nat) : bt tx n k ≤ 256 := by
  rcases Nat.lt_or_ge k n with q | q
  · exact Nat.le_of_lt (MA_bt h q).2
  · rw [bt_end q]; exact Nat.le_refl _
theorem m_byte {x : Int32} {Q : Int32 → MI → MJ → Prop} (h : MA tx n i I) (k : Nat) (hk : k < 2 ^ 31) (e : x = nI k) (hQ : Q (eB (bt tx n k)) I J) : f_X8_byteAt x I J Q := by
  have n6 := h.1
  refine q_le n k (by omega) hk h.2.2.1 e (fun y => ?_) (fun y => ⟨vin k 600 (by omega) (by decide) e, ?_⟩)
  · rw [bt_end y] at hQ; exact hQ
  · have t := MA_bt h y
    rw [cln hk e, t.1]
    unfold eB at hQ
    rw [if_neg (by omega)] at hQ
    exact hQ
theorem m_ahead {Q : Int32 → MI → MJ → Prop} (h : MA tx n i I) (hQ : ∀ I', MA tx n (skp tx n i) I' → mo I I' → I' 12 0 13 = I 12 0 13 → Q (eB (bt tx n (skp tx n i))) I' J) : f_X8_ahead I J Q := by
  have z := skp_ok (tx := tx) (n := n) h.2.1
  have n6 := h.1
  refine ⟨_, up_mem (fun m (s : MI) => f_X8_ahead_L0 (fun I_8 J_9 => f_X8_byteAt (I_8 12 0 4) I_8 J_9 (fun v_12 I_10 J_11 => Q v_12 I_10 J_11)) m s J) (fun q s => MA tx n q s ∧ mo I s ∧ s 12 0 13 = I 12 0 13) i (skp tx n i) z.1.1 (fun m s hs => ?_) (fun m s q h1 h2 hs ih => ?_) I ⟨h, mo.rfl, rfl⟩⟩
  · show f_X8_ahead_B0 _ _ s J
    obtain ⟨a, b, c⟩ := hs
    refine m_byte a (skp tx n i) (by omega) a.2.2.2.1 (q_f (fun y => ?_) (m_byte a (skp tx n i) (by omega) a.2.2.2.1 (hQ s a b c)))
    exact absurd ((eB_eq (s := 32) (MA_le h _) (by decide)).mp y) (isS_f z.2.1)
  · show f_X8_ahead_B0 _ _ s J
    obtain ⟨a, b, c⟩ := hs
    have sp := isS_t (z.2.2 q h1 h2)
    refine m_byte a q (by omega) a.2.2.2.1 (q_t (by rw [sp]; rfl) (fun I6 e6 => ih I6 ⟨MA_put a (by omega) e6 (by rw [a.2.2.2.1, nI_1]), b.trans (mo_put (Or.inl rfl) e6), ?_⟩))
    rw [e6, sI_ot _ _ _ _ (by decide)]; exact c
theorem m_good {Q : Int32 → MI → MJ → Prop} (h : MA tx n i I) (hQ : Q 1 I J) : f_X8_isGood I J Q := q_t h.2.2.2.2.2 hQ
theorem m_report {x1 x2 : Int32} {Q : MI → MJ → Prop} (h : MA tx n i I) (o : Nat) (e2 : x2 = nI o) (hc : ¬ x1 = 0) (hQ : ∀ I', ME x1 o I I' → (∀ b r, ¬ (b = 12 ∧ r = 0) → I' b r = I b r) → (∀ k, k ≠ 5 → k ≠ 6 → I' 12 0 k = I 12 0 k) → Q I' J) : f_X8_report x1 x2 I J Q := by
  refine q_t h.2.2.2.2.2 (fun I1 e1 I2 e3 => ?_)
  have o' : ∀ b r, ¬ (b = 12 ∧ r = 0) → I2 b r = I b r := fun b r n => by
    rw [e3, e1]
    unfold sI
    rw [rI_ne n, rI_ne n]
  have f' : ∀ k, k ≠ 5 → k ≠ 6 → I2 12 0 k = I 12 0 k := fun k h5 h6 => by rw [e3, sI_ot _ _ _ _ h6, e1, sI_ot _ _ _ _ h5]
  exact hQ I2 ⟨fun b r n => o' b r (fun z => n ⟨z.1, Or.inl z.2⟩), by rw [e3, sI_ot _ _ _ _ (by decide), e1, sI_at], by rw [e3, sI_at]; exact e2, hc, fun k hk => f' k (by omega) (by omega)⟩ o' f'
theorem m_in {x lo hi : Int32} {Q : Int32 → MI → MJ → Prop} (c a b : Nat) (hc : c < 2 ^ 31) (ha : a < 2 ^ 31) (hb : b < 2 ^ 31) (e : x = nI c) (e1 : lo = nI a) (e2 : hi = nI b) (hQ : Q (if decide (a ≤ c ∧ c ≤ b) then 1 else 0) I J) : f_X8_in x lo hi I J Q := by
  refine q_lt c a hc ha e e1 (fun w => ?_) (fun w => q_lt b c hb hc e2 e (fun y => ?_) (fun y => ?_))
  · rw [decide_eq_false (by omega)] at hQ; exact hQ
  · rw [decide_eq_false (by omega)] at hQ; exact hQ
  · rw [decide_eq_true (by omega)] at hQ; exact hQ
theorem m_inL {x : Int32} {Q : Int32 → MI → MJ → Prop} (c : Nat) (hc : c ≤ 256) (e : x = eB c) (hQ : Q (if isL c then 1 else 0) I J) : f_X8_in x 97 122 I J Q := by
  by_cases q : c = 256
  · subst q
    have e2 : x = -1 := by rw [e]; rfl
    have : isL 256 = false := by decide
    rw [this] at hQ
    exact q_t (by rw [e2]; decide) hQ
  · exact m_in c 97 122 (by omega) (by decide) (by decide) (by rw [e]; exact if_neg q) rfl rfl hQ
theorem m_inD {x : Int32} {Q : Int32 → MI → MJ → Prop} (c : Nat) (hc : c ≤ 256) (e : x = eB c) (hQ : Q (if isD c then 1 else 0) I J) : f_X8_in x 48 57 I J Q := by
  by_cases q : c = 256
  · subst q
    have e2 : x = -1 := by rw [e]; rfl
    have : isD 256 = false := by decide
    rw [this] at hQ
    exact q_t (by rw [e2]; decide) hQ
  · exact m_in c 48 57 (by omega) (by decide) (by decide) (by rw [e]; exact if_neg q) rfl rfl hQ
theorem m_isLetter {x : Int32} {Q : Int32 → MI → MJ → Prop} (c : Nat) (hc : c ≤ 256) (e : x = eB c) (hQ : Q (if isL c then 1 else 0) I J) : f_X8_isLetter x I J Q := m_inL c hc e ⟨bo_I _, hQ⟩
theorem m_isDigit {x : Int32} {Q : Int32 → MI → MJ → Prop} (c : Nat) (hc : c ≤ 256) (e : x = eB c) (hQ : Q (if isD c then 1 else 0) I J) : f_X8_isDigit x I J Q := m_inD c hc e ⟨bo_I _, hQ⟩
theorem m_expect {s : Nat} {x : Int32} {Q : MI → MJ → Prop} (h : MA tx n i I) (ex : x = nI s) (hs : s < 256) (hQ : ∀ j, spSign tx n s i = .ok j → ∀ I', MA tx n j I' → mo I I' → Q I' J) (hE : ∀ c o, spSign tx n s i = .error (c, o) → ∀ I', ME c o I I' → Q I' J) : f_X8_expect x I J Q := by
  refine m_good h (q_f (by decide) (m_ahead h (fun I1 a f _ => ?_)))
  unfold spSign at hQ hE
  rw [ex]
  have iff := eB_eq (MA_le h (skp tx n i)) hs
  refine ⟨fun y I5 e5 => ?_, fun y => m_report a (skp tx n i) a.2.2.2.1 (by decide) (fun I' e _ _ => hE _ _ (if_neg (fun w => y (iff.mpr w))) I' (f.ME e))⟩
  have w := iff.mp y
  have lt : skp tx n i < n := by
    rcases Nat.lt_or_ge (skp tx n i) n with q | q
    · exact q
    · have := bt_end (tx := tx) q
      omega
  exact hQ _ (if_pos w) I5 (MA_put a lt e5 (by rw [a.2.2.2.1, nI_1])) (f.trans (mo_put (Or.inl rfl) e5))
theorem m_number {x1 x2 : Int32} {lo hi : Nat} {Q : Int32 → MI → MJ → Prop} (h : MA tx n i I) (e1 : x1 = nI lo) (e2 : x2 = nI hi) (hlo : lo ≤ 9999) (hhi : hi ≤ 9999)
    (hQ : ∀ k v, spNum tx n lo hi i = .ok (k, v) → ∀ I', MA tx n k I' → mo I I' → I' 12 0 13 = nI (skp tx n i) → lo ≤ v → v ≤ hi → skp tx n i < k → Q (nI v) I' J) (hE : ∀ c o, spNum tx n lo hi i = .error (c, o) → ∀ I', ME c o I I' → Q 0 I' J) : f_X8_number x1 x2 I J Q := by
  have z := skp_ok (tx := tx) (n := n) h.2.1
  have n6 := h.1
  refine m_good h (q_f (by decide) (m_ahead h (fun I1 a f _ => m_isDigit _ (MA_le h _) rfl ?_)))
  unfold spNum at hQ hE
  by_cases y : isD (bt tx n (skp tx n i)) = true
  · rw [if_pos y] at hQ hE ⊢
    have r := dend_ok (tx := tx) (n := n) z.1.2
    have gt : skp tx n i < dend tx n (skp tx n i) := by
      rcases Nat.lt_or_ge (skp tx n i) (dend tx n (skp tx n i)) with q | q
      · exact q
      · have e := r.2.1
        rw [show dend tx n (skp tx n i) = skp tx n i from Nat.le_antisymm q r.1.1] at e
        rw [e] at y; cases y
    refine q_f (by decide) (fun I12 e12 => ⟨_, up_mem (fun m (s : Int32 × MI) => f_X8_number_L41 _ m s.1 s.2 J) (fun q s => MA tx n q s.2 ∧ mo I s.2 ∧ s.2 12 0 13 = nI (skp tx n i) ∧ s.1 = nI (min 100000000 (dv tx (skp tx n i) (q - skp tx n i)))) (skp tx n i) (dend tx n (skp tx n i)) r.1.1 (fun m s hs => ?_) (fun m s q h1 h2 hs ih => ?_) (0, I12) ⟨?_, f.trans (mo_put (Or.inr rfl) e12), ?_, ?_⟩⟩)
    · show f_X8_number_B41 _ _ s.1 s.2 J
      obtain ⟨b, g, c, d⟩ := hs
      refine m_byte b _ (by omega) b.2.2.2.1 (m_isDigit _ (MA_le h _) rfl ?_)
      rw [r.2.1]
      refine q_t rfl (m_in _ lo hi (by omega) (by omega) (by omega) d e1 e2 ?_)
      by_cases ok : lo ≤ dv tx (skp tx n i) (dend tx n (skp tx n i) - skp tx n i) ∧ dv tx (skp tx n i) (dend tx n (skp tx n i) - skp tx n i) ≤ hi
      · rw [decide_eq_true (by omega)]
        refine q_f (by decide) (m_good b (q_f (by decide) ?_))
        rw [d, Nat.min_eq_right (by omega)]
        exact hQ _ _ (if_pos ok) s.2 b g c ok.1 ok.2 gt
      · rw [decide_eq_false (by omega)]
        refine q_t rfl (m_report b (skp tx n i) c (by decide) (fun I' e _ _ => ?_))
        exact q_f (by rw [e.2.1]; decide) (q_t rfl (hE _ _ (if_neg ok) I' (g.ME e)))
    · show f_X8_number_B41 _ _ s.1 s.2 J
      obtain ⟨b, g, c, d⟩ := hs
      have lt : q < n := by omega
      have dig := r.2.2 q h1 h2
      have t := MA_bt b lt
      have dt := isD_t dig
      have eb : eB (bt tx n q) = nI (bt tx n q) := if_neg (by omega)
      refine m_byte b q (by omega) b.2.2.2.1 (m_isDigit _ (MA_le h _) rfl ?_)
      rw [dig]
      have ev : (((10 : Int32) * s.1) + eB (bt tx n q)) - (48 : Int32) = nI (10 * min 100000000 (dv tx (skp tx n i) (q - skp tx n i)) + bt tx n q - 48) := by
        rw [d, eb, nlit 10, nlit 48, nmul, nI_add, nsub (by omega)]
      refine q_f (by decide) (m_byte b q (by omega) b.2.2.2.1 (m_min 100000000 _ (by decide) (by omega) rfl ev (fun I29 e29 => ih (_, I29) ⟨MA_put b (by omega) e29 (by rw [b.2.2.2.1, nI_1]), g.trans (mo_put (Or.inl rfl) e29), ?_, ?_⟩)))
      · show I29 12 0 13 = _
        rw [e29, sI_ot _ _ _ _ (by decide)]; exact c
      · show nI _ = nI _
        rw [dv_s tx h1, ← bt_in (tx := tx) lt]
        congr 1
        omega
    · show MA tx n (skp tx n i) I12
      exact MA_keep a (by rw [e12, sI_ot _ _ _ _ (by decide)]) (by rw [e12, sI_ot _ _ _ _ (by decide)]) (by rw [e12, sI_ot _ _ _ _ (by decide)]) (by rw [e12, sI_ro _ _ _ _ _ (by decide)])
    · show I12 12 0 13 = _
      rw [e12, sI_at]; exact a.2.2.2.1
    · show (0 : Int32) = _
      rw [Nat.sub_self]; rfl
  · rw [if_neg y] at hE ⊢
    exact q_t rfl (m_report a (skp tx n i) a.2.2.2.1 (by decide) (fun I' e _ _ => hE _ _ rfl I' (f.ME e)))
end MRD
