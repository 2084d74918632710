/-! THE MODEL READS: words of the grammar; what is told once -/
section MTW
variable {I : MI} {J : MJ} {tx : Nat → Nat} {n i : Nat}
theorem m_takeWord {w : Nat} {Q : Int32 → MI → MJ → Prop} (hw : w < 13) (h : MA tx n i I)
    (h1 : runIs tx n w (skp tx n i) (rend tx n (skp tx n i)) = true → ∀ I', MA tx n (rend tx n (skp tx n i)) I' → mo I I' → Q 1 I' J) (h0 : runIs tx n w (skp tx n i) (rend tx n (skp tx n i)) = false → ∀ I', MA tx n (skp tx n i) I' → mo I I' → Q 0 I' J) : f_X8_takeWord w I J Q := by
  have z := skp_ok (tx := tx) (n := n) h.2.1
  have n6 := h.1
  have wp := wPos w hw
  have r := rend_ok (tx := tx) (n := n) z.1.2
  refine m_good h (q_f (by decide) (m_ahead h (fun I1 a f _ => ⟨wLen w + 1, ?_⟩)))
  have out : ∀ q, q < wLen w → ¬ bt tx n (skp tx n i + q) = wCh w q → f_X8_takeWord_J48 w Q (nI q) I1 J := fun q hq hne => by
    have e : runIs tx n w (skp tx n i) (rend tx n (skp tx n i)) = false := by
      unfold runIs
      rw [decide_eq_false (p := ∀ q, q < wLen w → bt tx n (skp tx n i + q) = wCh w q) (fun g => hne (g q hq)), Bool.and_false]
    exact q_lt q (wLen w) (by omega) (by omega) rfl rfl (fun _ => h0 e I1 a f) (fun g => absurd g (by omega))
  refine up_inv (fun m (_ : Unit) q => f_X8_takeWord_L16 w (fun x2_24 I_25 J_26 => f_X8_takeWord_J48 w Q x2_24 I_25 J_26) m q I1 J) (fun q _ => ∀ r, r < q → bt tx n (skp tx n i + r) = wCh w r) (wLen w) (fun m s hs => ?_) (fun m s q hq hs ih => ?_) () (fun r hr => absurd hr (Nat.not_lt_zero r))
  · show f_X8_takeWord_B16 _ _ _ _ I1 J
    have let1 : ∀ q, skp tx n i ≤ q → q < skp tx n i + wLen w → isL (bt tx n q) = true := fun q g1 g2 => by
      have y := hs (q - skp tx n i) (by omega)
      rw [show skp tx n i + (q - skp tx n i) = q by omega] at y
      rw [y]
      exact wLet w hw _ (by omega)
    have len : skp tx n i + wLen w ≤ n := by
      rcases Nat.lt_or_ge n (skp tx n i + wLen w) with q | q
      · have y := let1 (skp tx n i + wLen w - 1) (by omega) (by omega)
        rw [bt_end (by omega)] at y
        cases y
      · exact q
    refine q_t (Int32.le_refl _) (q_f (fun g => Int32.lt_irrefl g) ?_)
    have ea : (I1 12 0 4) + nI (wLen w) = nI (skp tx n i + wLen w) := by rw [a.2.2.2.1, nI_add]
    refine m_byte a _ (by omega) ea (m_inL _ (MA_le h _) rfl ?_)
    by_cases y : isL (bt tx n (skp tx n i + wLen w)) = true
    · rw [y]
      refine q_f (by decide) (h0 ?_ I1 a f)
      unfold runIs
      rw [decide_eq_false (p := rend tx n (skp tx n i) - skp tx n i = wLen w) (fun g => ?_), Bool.false_and]
      have e : rend tx n (skp tx n i) = skp tx n i + wLen w := by omega
      have := r.2.1
      rw [e, y] at this
      cases this
    · have y0 := Bool.eq_false_iff.mpr y
      rw [y0]
      have e : rend tx n (skp tx n i) = skp tx n i + wLen w := fst_is isL_256 z.1.2 (by omega) y0 let1
      refine q_t rfl (fun I41 e41 => h1 ?_ I41 ?_ (f.trans (mo_put (Or.inl rfl) e41)))
      · unfold runIs
        rw [e, decide_eq_true hs, decide_eq_true (show skp tx n i + wLen w - skp tx n i = wLen w by omega)]
        rfl
      · rw [e]; exact MA_put a len e41 (by rw [a.2.2.2.1]; exact nI_add _ _)
  · show f_X8_takeWord_B16 _ _ _ _ I1 J
    have ea : (I1 12 0 4) + nI q = nI (skp tx n i + q) := by rw [a.2.2.2.1, nI_add]
    have ec : sxC w (nI q).toNatClampNeg = nI (wCh w q) := by rw [nI_clamp (by omega)]; exact wCode w hw q hq
    have lc := isL_t (wLet w hw q hq)
    have iff := eB_eq (c := bt tx n (skp tx n i + q)) (s := wCh w q) (MA_le h _) (by omega)
    refine q_f (nge hq (show wLen w < 2 ^ 31 by omega)) (m_byte a _ (by omega) ea ⟨vin q _ hq (show wLen w < 2 ^ 31 by omega) rfl, ?_⟩)
    rw [ec]
    refine ⟨fun y j ej => ih () j (fun r hr => ?_) (by rw [ej, nI_1]), fun y => out q hq (fun g => y (iff.mpr g))⟩
    by_cases v : r = q
    · rw [v]; exact iff.mp y
    · exact hs r (by omega)
theorem tell_and : ∀ s, s < 32 → ∀ k, k < 5 → (nI s &&& nI (2 ^ k)) = nI (if s.testBit k then 2 ^ k else 0) := by decide +kernel
theorem tell_or : ∀ s, s < 32 → ∀ k, k < 5 → (s.testBit k = true ∨ ((nI s ||| nI (2 ^ k)) = nI (s + 2 ^ k) ∧ s + 2 ^ k < 32)) := by decide +kernel
theorem k_tellOnce {x : Int32} {Q : Int32 → MI → MJ → Prop} (s k j : Nat) (hs : s < 32) (hk : k < 5) (e8 : I 11 4 8 = nI s) (e7 : I 11 4 7 = nI j) (ex : x = nI (2 ^ k))
    (h1 : s.testBit k = false → ∀ I', I' = sI I 11 4 8 (nI (s + 2 ^ k)) → s + 2 ^ k < 32 → Q 1 I' J) (h0 : s.testBit k = true → ∀ I', ER (-2) j I I' → Q 0 I' J) : f_X5_tellOnce x I J Q := by
  have a := tell_and s hs k hk
  have o := tell_or s hs k hk
  have pk := Nat.two_pow_pos k
  have lk : 2 ^ k < 2 ^ 5 := Nat.pow_lt_pow_right (by decide) hk
  unfold f_X5_tellOnce
  rw [e8, ex, a]
  by_cases z : s.testBit k = true
  · rw [if_pos z]
    exact q_eq (2 ^ k) 0 (by omega) (by decide) rfl rfl (fun y => absurd y (by omega)) (fun _ => k_fail j e7 (fun I' e => ⟨bo0, h0 z I' e⟩))
  · rw [if_neg z]
    have z0 := Bool.eq_false_iff.mpr z
    have o2 := o.resolve_left z
    exact q_t rfl (fun I2 e2 => h1 z0 I2 (by rw [e2, o2.1]) o2.2)
theorem m_once {x1 x2 : Int32} {Q : MI → MJ → Prop} (h : MA tx n i I) (s k j : Nat) (hs : s < 32) (hk : k < 5) (e15 : I 12 0 15 = nI s) (e1 : x1 = nI k) (e2 : x2 = nI j)
    (h1 : s.testBit k = false → ∀ I', I' = sI I 12 0 15 (nI (s + 2 ^ k)) → s + 2 ^ k < 32 → Q I' J) (h0 : s.testBit k = true → ∀ I', ME (-2) j I I' → Q I' J) : f_X8_once x1 x2 I J Q := by
  have o := b_or s (by omega) k (by omega)
  have o2 := tell_or s hs k hk
  have b := bt_at s (by omega) k (by omega)
  unfold f_X8_once
  rw [e15, e1, b]
  by_cases z : s.testBit k = true
  · rw [if_pos z]
    refine q_t rfl (m_report h j e2 (by decide) (fun I' e o' f' I5 e5 => h0 z I5 ?_))
    refine ⟨fun b r n => ?_, ?_, ?_, e.2.2.2.1, fun q hq => ?_⟩
    · rw [e5]; unfold sI; rw [rI_ne (fun y => n ⟨y.1, Or.inl y.2⟩)]; exact e.1 b r n
    · rw [e5, sI_ot _ _ _ _ (by decide)]; exact e.2.1
    · rw [e5, sI_ot _ _ _ _ (by decide)]; exact e.2.2.1
    · rw [e5, sI_ot _ _ _ _ (by omega)]; exact e.2.2.2.2 q hq
  · rw [if_neg z]
    have z0 := Bool.eq_false_iff.mpr z
    have o3 := o2.resolve_left z
    refine q_f (by decide) (fun I5 e5 => h1 z0 I5 ?_ o3.2)
    rw [e5, e15, o, if_neg z]
end MTW
section BAD
variable {I : MI} {J : MJ} {c : Int32} {o : Nat} {I0 : MI}
/-- behind an error nothing more is read -/
theorem ME_ne (e : ME c o I0 I) : ¬ I 12 0 5 = 0 := by rw [e.2.1]; exact e.2.2.2.1
theorem bad_good {Q : Int32 → MI → MJ → Prop} (e : ME c o I0 I) (h : Q 0 I J) : f_X8_isGood I J Q := q_f (ME_ne e) h
theorem bad_report {x1 x2 : Int32} {Q : MI → MJ → Prop} (e : ME c o I0 I) (h : Q I J) : f_X8_report x1 x2 I J Q := q_f (ME_ne e) h
theorem bad_take {w : Nat} {Q : Int32 → MI → MJ → Prop} (e : ME c o I0 I) (h : Q 0 I J) : f_X8_takeWord w I J Q := bad_good e (q_t rfl h)
theorem bad_expect {x : Int32} {Q : MI → MJ → Prop} (e : ME c o I0 I) (h : Q I J) : f_X8_expect x I J Q := bad_good e (q_t rfl h)
theorem bad_number {x1 x2 : Int32} {Q : Int32 → MI → MJ → Prop} (e : ME c o I0 I) (h : Q 0 I J) : f_X8_number x1 x2 I J Q := bad_good e (q_t rfl h)
theorem bad_emit {x : Int32} {Q : MI → MJ → Prop} (e : ME c o I0 I) (h : Q I J) : f_X8_emit x I J Q := bad_good e (q_t rfl h)
theorem bad_factor {rs : MI → MJ → (MI → MJ → Prop) → Prop} {Q : MI → MJ → Prop} (e : ME c o I0 I) (h : Q I J) : f_X8_factor rs I J Q := bad_good e (q_t rfl h)
/-- cells of the reader that may still change then -/
theorem ME_put {I' : MI} {r k : Nat} {v : Int32} (e : ME c o I0 I) (hr : (r = 0 ∧ 13 ≤ k) ∨ (r = 0 ∧ (k = 3 ∨ k = 4)) ∨ r = 3) (ei : I' = sI I 12 r k v) : ME c o I0 I' := by
  have f : ∀ q, ¬ (r = 0 ∧ q = k) → I' 12 0 q = I 12 0 q := fun q n => by
    rw [ei]
    by_cases z : r = 0
    · subst z; exact sI_ot _ _ _ _ (fun y => n ⟨rfl, y⟩)
    · rw [sI_ro _ _ _ _ _ (fun y => z y.symm)]
  refine ⟨fun b q n => ?_, ?_, ?_, e.2.2.2.1, fun q hq => ?_⟩
  · rw [ei]
    unfold sI
    rw [rI_ne (fun y => n ⟨y.1, by omega⟩)]
    exact e.1 b q n
  · rw [f 5 (by omega)]; exact e.2.1
  · rw [f 6 (by omega)]; exact e.2.2.1
  · rw [f q (by omega)]; exact e.2.2.2.2 q hq
theorem bad_once {x1 x2 : Int32} {Q : MI → MJ → Prop} (e : ME c o I0 I) (h : ∀ I', ME c o I0 I' → Q I' J) : f_X8_once x1 x2 I J Q := by
  have fin : f_X8_once_J19 Q x1 I J := fun I5 e5 => h I5 (ME_put e (Or.inl ⟨rfl, by decide⟩) e5)
  exact ⟨fun _ => bad_report e fin, fun _ => fin⟩
theorem bad_value {x1 x2 x3 x4 x5 : Int32} {Q : MI → MJ → Prop} (e : ME c o I0 I) (hv : vp_in x2 1802) (h : ∀ I', ME c o I0 I' → Q I' J) : f_X8_readValue x1 x2 x3 x4 x5 I J Q :=
  bad_once e (fun _ e1 => bad_number e1 ⟨hv, fun I7 e7 => h I7 (ME_put e1 (Or.inr (Or.inr rfl)) e7)⟩)
end BAD
