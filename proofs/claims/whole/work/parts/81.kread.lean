/-! THE CLASS READS: bytes and tokens -/
theorem up_mem {σ : Type} (Lp : Nat → σ → Prop) (Inv : Nat → σ → Prop) (i k : Nat) (hik : i ≤ k) (hend : ∀ (m : Nat) (s : σ), Inv k s → Lp (m + 1) s)
    (hstep : ∀ (m : Nat) (s : σ) (q : Nat), i ≤ q → q < k → Inv q s → (∀ s' : σ, Inv (q + 1) s' → Lp m s') → Lp (m + 1) s) (s : σ) (h : Inv i s) : Lp (k - i + 1) s := by
  have key : ∀ r q : Nat, i ≤ q → q + r = k → ∀ s, Inv q s → Lp (r + 1) s := by
    intro r
    induction r with
    | zero =>
      intro q _ hq s hs
      have : q = k := by omega
      subst this
      exact hend 0 s hs
    | succ r ih =>
      intro q h0 hq s hs
      exact hstep (r + 1) s q h0 (by omega) hs (fun s' hs' => ih (q + 1) (by omega) (by omega) s' hs')
  exact key (k - i) i (Nat.le_refl _) (by omega) s h
def eB (c : Nat) : Int32 := if c = 256 then -1 else nI c
/-- the class' reader stands at i -/
def KA (tx : Nat → Nat) (n i : Nat) (I : MI) : Prop := n ≤ 600 ∧ i ≤ n ∧ I 11 4 3 = nI n ∧ I 11 4 4 = nI i ∧ ∀ k, k < n → I 11 5 k = nI (tx k) ∧ tx k < 256
/-- only the place, the number and the token's start may have changed -/
def fo (I I' : MI) : Prop := (∀ b r, ¬ (b = 11 ∧ r = 4) → I' b r = I b r) ∧ ∀ k, k ≠ 4 → k ≠ 6 → k ≠ 7 → I' 11 4 k = I 11 4 k
/-- an error is told -/
def ER (c : Int32) (o : Nat) (I I' : MI) : Prop := (∀ b r, b ≠ 10 → ¬ (b = 11 ∧ r = 4) → I' b r = I b r) ∧ I' 11 4 5 = c ∧ I' 11 4 1 = nI o
theorem fo.rfl {I : MI} : fo I I := ⟨fun _ _ _ => Eq.refl _, fun _ _ _ _ => Eq.refl _⟩
theorem fo.trans {I I' I'' : MI} (h : fo I I') (g : fo I' I'') : fo I I'' := ⟨fun b r n => (g.1 b r n).trans (h.1 b r n), fun k a b c => (g.2 k a b c).trans (h.2 k a b c)⟩
theorem fo.ER {I I' I'' : MI} {c : Int32} {o : Nat} (h : fo I I') (g : ER c o I' I'') : ER c o I I'' := ⟨fun b r n m => (g.1 b r n m).trans (h.1 b r m), g.2⟩
theorem fo_put {I I' : MI} {k : Nat} {v : Int32} (hk : k = 4 ∨ k = 6 ∨ k = 7) (e : I' = sI I 11 4 k v) : fo I I' :=
  ⟨fun b r n => by rw [e]; unfold sI; exact rI_ne n, fun q a b c => by rw [e]; exact sI_ot _ _ _ _ (by omega)⟩
theorem KA_put {tx : Nat → Nat} {n i i' : Nat} {I I' : MI} {v : Int32} (h : KA tx n i I) (hi : i' ≤ n) (e : I' = sI I 11 4 4 v) (ev : v = nI i') : KA tx n i' I' := by
  obtain ⟨h1, h2, h3, h4, h5⟩ := h
  exact ⟨h1, hi, by rw [e, sI_ot _ _ _ _ (by decide)]; exact h3, by rw [e, sI_at]; exact ev, fun k hk => by rw [e, sI_ro _ _ _ _ _ (by decide)]; exact h5 k hk⟩
theorem KA_keep {tx : Nat → Nat} {n i : Nat} {I I' : MI} (h : KA tx n i I) (h3 : I' 11 4 3 = I 11 4 3) (h4 : I' 11 4 4 = I 11 4 4) (h5 : I' 11 5 = I 11 5) : KA tx n i I' :=
  ⟨h.1, h.2.1, h3.trans h.2.2.1, h4.trans h.2.2.2.1, fun k hk => by rw [h5]; exact h.2.2.2.2 k hk⟩
section KR
variable {I : MI} {J : MJ} {tx : Nat → Nat} {n i : Nat}
theorem KA_bt (h : KA tx n i I) {k : Nat} (hk : k < n) : I 11 5 k = nI (bt tx n k) ∧ bt tx n k < 256 := by
  rw [bt_in hk]
  exact h.2.2.2.2 k hk
theorem k_peek {Q : Int32 → MI → MJ → Prop} (h : KA tx n i I) (hQ : ∀ I', KA tx n (skp tx n i) I' → fo I I' → I' 11 4 7 = I 11 4 7 → I' 11 4 6 = I 11 4 6 → Q (eB (bt tx n (skp tx n i))) I' J) : f_X5_peek I J Q := by
  have z := skp_ok (tx := tx) (n := n) h.2.1
  have n6 := h.1
  refine ⟨_, up_mem (fun m (s : MI) => f_X5_peek_L0 (fun I_7 J_8 => f_X5_peek_J38 Q I_7 J_8) m s J) (fun q s => KA tx n q s ∧ fo I s ∧ s 11 4 7 = I 11 4 7 ∧ s 11 4 6 = I 11 4 6) i (skp tx n i) z.1.1 (fun m s hs => ?_) (fun m s q h1 h2 hs ih => ?_) I ⟨h, fo.rfl, rfl, rfl⟩⟩
  · show f_X5_peek_B0 _ _ s J
    obtain ⟨a, b, c, d⟩ := hs
    have fin : f_X5_peek_J38 Q s J := by
      refine q_le n (skp tx n i) (by omega) (by omega) a.2.2.1 a.2.2.2.1 (fun y => ?_) (fun y => ?_)
      · have g := hQ s a b c d
        unfold eB at g
        rw [if_pos (bt_end y)] at g
        exact g
      · have g := hQ s a b c d
        have t := KA_bt a y
        unfold eB at g
        rw [if_neg (by omega), ← t.1] at g
        refine ⟨vin _ 600 (by omega) (by decide) a.2.2.2.1, ?_⟩
        rw [cln (by omega) a.2.2.2.1]
        exact g
    refine q_le n (skp tx n i) (by omega) (by omega) a.2.2.1 a.2.2.2.1 (fun _ => fin) (fun y => ⟨vin _ 600 (by omega) (by decide) a.2.2.2.1, ?_⟩)
    have t := KA_bt a y
    rw [cln (by omega) a.2.2.2.1]
    exact q_eq (bt tx n (skp tx n i)) 32 (by omega) (by decide) t.1 rfl (fun w => absurd w (isS_f z.2.1)) (fun _ => fin)
  · show f_X5_peek_B0 _ _ s J
    obtain ⟨a, b, c, d⟩ := hs
    have lt : q < n := by omega
    have t := KA_bt a lt
    have sp := z.2.2 q h1 h2
    refine q_le n q (by omega) (by omega) a.2.2.1 a.2.2.2.1 (fun y => absurd y (by omega)) (fun y => ⟨vin _ 600 (by omega) (by decide) a.2.2.2.1, ?_⟩)
    rw [cln (by omega) a.2.2.2.1]
    refine q_eq (bt tx n q) 32 (by omega) (by decide) t.1 rfl (fun w I6 e6 => ih I6 ⟨KA_put a (by omega) e6 (by rw [a.2.2.2.1, nI_1]), b.trans (fo_put (Or.inl rfl) e6), ?_, ?_⟩) (fun w => ?_)
    · rw [e6, sI_ot _ _ _ _ (by decide)]; exact c
    · rw [e6, sI_ot _ _ _ _ (by decide)]; exact d
    · exact absurd (isS_t sp) w
theorem k_fail {x1 x2 : Int32} {Q : Int32 → MI → MJ → Prop} (o : Nat) (e2 : x2 = nI o) (hQ : ∀ I', ER x1 o I I' → Q 0 I' J) : f_X5_fail x1 x2 I J Q := by
  intro I1 e1 I2 e3
  refine hQ I2 ⟨fun b r _ n => ?_, ?_, ?_⟩
  · rw [e3, e1]
    unfold sI
    rw [rI_ne n, rI_ne n]
  · rw [e3, sI_ot _ _ _ _ (by decide), e1, sI_at]
  · rw [e3, sI_at]; exact e2
theorem eB_eq {c s : Nat} (hc : c ≤ 256) (hs : s < 256) : eB c = nI s ↔ c = s := by
  unfold eB
  by_cases q : c = 256
  · rw [if_pos q]
    refine ⟨fun z => ?_, fun z => absurd z (by omega)⟩
    have := congrArg Int32.toInt z
    rw [nI_toInt (by omega)] at this
    have z1 : (-1 : Int32).toInt = -1 := by decide
    omega
  · rw [if_neg q]
    exact nI_eq (by omega) (by omega)
theorem bt_le (h : KA tx n i I) (k : Nat) : bt tx n k ≤ 256 := by
  rcases Nat.lt_or_ge k n with q | q
  · exact Nat.le_of_lt (KA_bt h q).2
  · rw [bt_end q]; exact Nat.le_refl _
theorem k_sign {s : Nat} {x : Int32} {Q : Int32 → MI → MJ → Prop} (h : KA tx n i I) (ex : x = nI s) (hs : s < 256)
    (hQ : ∀ j, spSign tx n s i = .ok j → ∀ I', KA tx n j I' → fo I I' → Q 1 I' J) (hE : ∀ c o, spSign tx n s i = .error (c, o) → ∀ I', ER c o I I' → Q 0 I' J) : f_X5_readSign x I J Q := by
  have z := skp_ok (tx := tx) (n := n) h.2.1
  refine k_peek h (fun I1 a f _ _ => ?_)
  unfold spSign at hQ hE
  rw [ex]
  have iff := eB_eq (bt_le h (skp tx n i)) hs
  refine ⟨fun y I5 e5 => ?_, fun y => k_fail (skp tx n i) a.2.2.2.1 (fun I' e => ⟨bo0, hE _ _ (if_neg (fun w => y (iff.mpr w))) I' (f.ER e)⟩)⟩
  have w := iff.mp y
  have lt : skp tx n i < n := by
    rcases Nat.lt_or_ge (skp tx n i) n with q | q
    · exact q
    · have := bt_end (tx := tx) q
      omega
  exact hQ _ (if_pos w) I5 (KA_put a lt e5 (by rw [a.2.2.2.1, nI_1])) (f.trans (fo_put (Or.inl rfl) e5))
theorem k_digit {x : Int32} {Q : Int32 → MI → MJ → Prop} (c : Nat) (hc : c ≤ 256) (e : x = eB c) (hQ : Q (if isD c then 1 else 0) I J) : f_X5_isDigit x I J Q := by
  by_cases q : c = 256
  · subst q
    have e2 : x = -1 := by rw [e]; rfl
    have : isD 256 = false := by decide
    rw [this] at hQ
    exact q_t (by rw [e2]; decide) hQ
  · have e2 : x = nI c := by rw [e]; exact if_neg q
    unfold isD at hQ
    refine q_lt c 48 (by omega) (by decide) e2 rfl (fun w => ?_) (fun w => q_lt 57 c (by decide) (by omega) rfl e2 (fun y => ?_) (fun y => ?_))
    · rw [decide_eq_false (by omega)] at hQ; exact hQ
    · rw [decide_eq_false (by omega)] at hQ; exact hQ
    · rw [decide_eq_true (by omega)] at hQ; exact hQ
theorem k_letterQ {x : Int32} {Q : Int32 → MI → MJ → Prop} (c : Nat) (hc : c ≤ 256) (e : x = eB c) (hQ : Q (if isL c then 1 else 0) I J) : f_X6_isLetter x I J Q := by
  by_cases q : c = 256
  · subst q
    have e2 : x = -1 := by rw [e]; rfl
    have : isL 256 = false := by decide
    rw [this] at hQ
    exact q_t (by rw [e2]; decide) hQ
  · have e2 : x = nI c := by rw [e]; exact if_neg q
    unfold isL at hQ
    refine q_lt c 97 (by omega) (by decide) e2 rfl (fun w => ?_) (fun w => q_lt 122 c (by decide) (by omega) rfl e2 (fun y => ?_) (fun y => ?_))
    · rw [decide_eq_false (by omega)] at hQ; exact hQ
    · rw [decide_eq_false (by omega)] at hQ; exact hQ
    · rw [decide_eq_true (by omega)] at hQ; exact hQ
theorem eB_in (h : KA tx n i I) {k : Nat} (hk : k < n) : I 11 5 k = eB (bt tx n k) := by
  have t := KA_bt h hk
  unfold eB
  rw [if_neg (by omega)]
  exact t.1
theorem k_run {Q : Int32 → MI → MJ → Prop} (h : KA tx n i I) (hQ : ∀ k, spRun tx n i = .ok k → ∀ I', KA tx n k I' → fo I I' → I' 11 4 7 = nI (skp tx n i) → skp tx n i < k → Q 1 I' J) (hE : ∀ c o, spRun tx n i = .error (c, o) → ∀ I', ER c o I I' → Q 0 I' J) : f_X5_readRun I J Q := by
  have z := skp_ok (tx := tx) (n := n) h.2.1
  have n6 := h.1
  refine k_peek h (fun I1 a f _ _ => k_letterQ _ (bt_le h _) rfl ?_)
  unfold spRun at hQ hE
  by_cases y : isL (bt tx n (skp tx n i)) = true
  · rw [if_pos y] at hQ ⊢
    have r := rend_ok (tx := tx) (n := n) z.1.2
    have gt : skp tx n i < rend tx n (skp tx n i) := by
      rcases Nat.lt_or_ge (skp tx n i) (rend tx n (skp tx n i)) with q | q
      · exact q
      · have e := r.2.1
        rw [show rend tx n (skp tx n i) = skp tx n i from Nat.le_antisymm q r.1.1] at e
        rw [e] at y; cases y
    refine q_f (by decide) (fun I8 e8 => ⟨_, up_mem (fun m (s : MI) => f_X5_readRun_L29 (fun I_18 J_19 => Q 1 I_18 J_19) m s J) (fun q s => KA tx n q s ∧ fo I s ∧ s 11 4 7 = nI (skp tx n i)) (skp tx n i) (rend tx n (skp tx n i)) r.1.1 (fun m s hs => ?_) (fun m s q h1 h2 hs ih => ?_) I8 ⟨?_, f.trans (fo_put (Or.inr (Or.inr rfl)) e8), ?_⟩⟩)
    · show f_X5_readRun_B29 _ _ s J
      obtain ⟨b, g, c⟩ := hs
      have fin := hQ _ rfl s b g c gt
      refine q_le n (rend tx n (skp tx n i)) (by omega) (by omega) b.2.2.1 b.2.2.2.1 (fun _ => fin) (fun w => ⟨vin _ 600 (by omega) (by decide) b.2.2.2.1, ?_⟩)
      rw [cln (by omega) b.2.2.2.1]
      refine k_letterQ _ (bt_le h _) (eB_in b w) ?_
      rw [r.2.1]
      exact q_t rfl fin
    · show f_X5_readRun_B29 _ _ s J
      obtain ⟨b, g, c⟩ := hs
      have lt : q < n := by omega
      refine q_le n q (by omega) (by omega) b.2.2.1 b.2.2.2.1 (fun w => absurd w (by omega)) (fun w => ⟨vin _ 600 (by omega) (by decide) b.2.2.2.1, ?_⟩)
      rw [cln (by omega) b.2.2.2.1]
      refine k_letterQ _ (bt_le h _) (eB_in b w) ?_
      rw [r.2.2 q h1 h2]
      refine q_f (by decide) (fun I17 e17 => ih I17 ⟨KA_put b (by omega) e17 (by rw [b.2.2.2.1, nI_1]), g.trans (fo_put (Or.inl rfl) e17), ?_⟩)
      rw [e17, sI_ot _ _ _ _ (by decide)]; exact c
    · exact KA_keep a (by rw [e8, sI_ot _ _ _ _ (by decide)]) (by rw [e8, sI_ot _ _ _ _ (by decide)]) (by rw [e8, sI_ro _ _ _ _ _ (by decide)])
    · rw [e8, sI_at]; exact a.2.2.2.1
  · rw [if_neg y] at hE ⊢
    exact q_t rfl (k_fail (skp tx n i) a.2.2.2.1 (fun I' e => ⟨bo0, hE _ _ rfl I' (f.ER e)⟩))
theorem k_runIs {w j k : Nat} {Q : Int32 → MI → MJ → Prop} (hw : w < 13) (h : KA tx n k I) (e7 : I 11 4 7 = nI j) (hj : j ≤ k) (hQ : Q (if runIs tx n w j k then 1 else 0) I J) : f_X5_runIs w I J Q := by
  have n6 := h.1
  have kn := h.2.1
  have wp := wPos w hw
  have es : (I 11 4 4) - (I 11 4 7) = nI (k - j) := by rw [h.2.2.2.1, e7]; exact nsub hj
  unfold runIs at hQ
  refine q_eq (k - j) (wLen w) (by omega) (by omega) es rfl (fun e => ?_) (fun e => ?_)
  · rw [decide_eq_true e, Bool.true_and] at hQ
    refine ⟨wLen w + 1, up_inv (fun m (_ : Unit) q => f_X5_runIs_L20 w (fun I_19 J_20 => Q 1 I_19 J_20) (fun I_21 J_22 => Q 0 I_21 J_22) m q I J) (fun q _ => ∀ r, r < q → bt tx n (j + r) = wCh w r) (wLen w) (fun m s hs => ?_) (fun m s q hq hs ih => ?_) () (fun r hr => absurd hr (Nat.not_lt_zero r))⟩
    · show f_X5_runIs_B20 _ _ _ _ _ I J
      rw [decide_eq_true hs] at hQ
      exact q_t (Int32.le_refl _) hQ
    · show f_X5_runIs_B20 _ _ _ _ _ I J
      have ea : (I 11 4 7) + nI q = nI (j + q) := by rw [e7, nI_add]
      have lt : j + q < n := by omega
      have t := KA_bt h lt
      refine q_f (nge hq (show wLen w < 2 ^ 31 by omega)) ⟨vin _ 600 (by omega) (by decide) ea, vin q _ hq (show wLen w < 2 ^ 31 by omega) rfl, ?_⟩
      have ec : sxC w (nI q).toNatClampNeg = nI (wCh w q) := by rw [nI_clamp (by omega)]; exact wCode w hw q hq
      have lc : wCh w q < 256 := by
        have := wLet w hw q hq
        unfold isL at this
        have := of_decide_eq_true this
        omega
      rw [cln (by omega) ea]
      refine q_eq (bt tx n (j + q)) (wCh w q) (by omega) (by omega) t.1 ec (fun y z ez => ih () z (fun r hr => ?_) (by rw [ez, nI_1])) (fun y => ?_)
      · by_cases v : r = q
        · rw [v]; exact y
        · exact hs r (by omega)
      · rw [decide_eq_false (fun g => y (g q hq))] at hQ
        exact hQ
  · rw [decide_eq_false e, Bool.false_and] at hQ
    exact hQ
end KR
