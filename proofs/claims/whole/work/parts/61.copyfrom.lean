/-! A GAME COPIED TO ANOTHER -/
def cpI (S : Nat → Nat → Prop) (b g : Nat) (I I' : MI) : Prop := (∀ r i, S r i → I' b r i = I g r i) ∧ ∀ b', b' ≠ b → I' b' = I b'
def cpJ (S : Nat → Nat → Prop) (b g : Nat) (J J' : MJ) : Prop := (∀ r i, S r i → J' b r i = J g r i) ∧ ∀ b', b' ≠ b → J' b' = J b'
theorem cpI.rfl {b g : Nat} {I : MI} : cpI (fun _ _ => False) b g I I := ⟨fun _ _ h => h.elim, fun _ _ => Eq.refl _⟩
theorem cpJ.rfl {b g : Nat} {J : MJ} : cpJ (fun _ _ => False) b g J J := ⟨fun _ _ h => h.elim, fun _ _ => Eq.refl _⟩
theorem cpI.row {S : Nat → Nat → Prop} {b g r n : Nat} {I I1 I2 : MI} (hne : g ≠ b) (h : cpI S b g I I1) (e : I2 = rI I1 b r (va_cpy (I1 g r) (I1 b r) 0 0 n)) : cpI (fun r' i => S r' i ∨ (r' = r ∧ i < n)) b g I I2 := by
  refine ⟨fun r' i hs => ?_, fun b' hb => ?_⟩
  · by_cases q : r' = r
    · subst q
      rw [e, rI_same]
      unfold va_cpy
      by_cases hi : i < n
      · rw [if_pos (by omega), h.2 g hne, Nat.zero_add, Nat.sub_zero]
      · rw [if_neg (by omega)]
        exact h.1 r' i (hs.elim id (fun z => absurd z.2 hi))
    · rw [e, rI_ne (fun z => q z.2)]
      exact h.1 r' i (hs.elim id (fun z => absurd z.1 q))
  · funext r'
    rw [e, rI_ne (fun z => hb z.1), h.2 b' hb]
theorem cpJ.row {S : Nat → Nat → Prop} {b g r n : Nat} {I I1 I2 : MJ} (hne : g ≠ b) (h : cpJ S b g I I1) (e : I2 = rJ I1 b r (va_cpy (I1 g r) (I1 b r) 0 0 n)) : cpJ (fun r' i => S r' i ∨ (r' = r ∧ i < n)) b g I I2 := by
  refine ⟨fun r' i hs => ?_, fun b' hb => ?_⟩
  · by_cases q : r' = r
    · subst q
      rw [e, rJ_same]
      unfold va_cpy
      by_cases hi : i < n
      · rw [if_pos (by omega), h.2 g hne, Nat.zero_add, Nat.sub_zero]
      · rw [if_neg (by omega)]
        exact h.1 r' i (hs.elim id (fun z => absurd z.2 hi))
    · rw [e, rJ_ne (fun z => q z.2)]
      exact h.1 r' i (hs.elim id (fun z => absurd z.1 q))
  · funext r'
    rw [e, rJ_ne (fun z => hb z.1), h.2 b' hb]
theorem cpI.cell {S : Nat → Nat → Prop} {b g r k : Nat} {I I1 I2 : MI} (hne : g ≠ b) (h : cpI S b g I I1) (e : I2 = sI I1 b r k (I1 g r k)) : cpI (fun r' i => S r' i ∨ (r' = r ∧ i = k)) b g I I2 := by
  refine ⟨fun r' i hs => ?_, fun b' hb => ?_⟩
  · by_cases q : r' = r
    · subst q
      by_cases hi : i = k
      · subst hi
        rw [e, sI_at, h.2 g hne]
      · rw [e, sI_ot _ _ _ _ hi]
        exact h.1 r' i (hs.elim id (fun z => absurd z.2 hi))
    · rw [e, sI_ro _ _ _ _ _ q]
      exact h.1 r' i (hs.elim id (fun z => absurd z.1 q))
  · funext r'
    rw [e]
    unfold sI
    rw [rI_ne (fun z => hb z.1), h.2 b' hb]
theorem pc6 : ¬ (0 : Int32) < 0 ∧ ¬ (0 : Int32) < 0 ∧ ¬ (6 : Int32) < 0 ∧ (0 : Int32).toNatClampNeg + (6 : Int32).toNatClampNeg ≤ 6 ∧ (0 : Int32).toNatClampNeg + (6 : Int32).toNatClampNeg ≤ 6 := by decide +kernel
theorem pc32 : ¬ (0 : Int32) < 0 ∧ ¬ (0 : Int32) < 0 ∧ ¬ (32 : Int32) < 0 ∧ (0 : Int32).toNatClampNeg + (32 : Int32).toNatClampNeg ≤ 32 ∧ (0 : Int32).toNatClampNeg + (32 : Int32).toNatClampNeg ≤ 32 := by decide +kernel
theorem pc240 : ¬ (0 : Int32) < 0 ∧ ¬ (0 : Int32) < 0 ∧ ¬ (240 : Int32) < 0 ∧ (0 : Int32).toNatClampNeg + (240 : Int32).toNatClampNeg ≤ 240 ∧ (0 : Int32).toNatClampNeg + (240 : Int32).toNatClampNeg ≤ 240 := by decide +kernel
theorem pc4 : ¬ (0 : Int32) < 0 ∧ ¬ (0 : Int32) < 0 ∧ ¬ (4 : Int32) < 0 ∧ (0 : Int32).toNatClampNeg + (4 : Int32).toNatClampNeg ≤ 4 ∧ (0 : Int32).toNatClampNeg + (4 : Int32).toNatClampNeg ≤ 4 := by decide +kernel
theorem pcn {x : Int32} {n : Nat} (e : x = nI n) (h : n ≤ 600) : ¬ (0 : Int32) < 0 ∧ ¬ (0 : Int32) < 0 ∧ ¬ x < 0 ∧ (0 : Int32).toNatClampNeg + x.toNatClampNeg ≤ 600 ∧ (0 : Int32).toNatClampNeg + x.toNatClampNeg ≤ 600 := by
  have z : (0 : Int32).toNatClampNeg = 0 := by decide +kernel
  have l : ¬ x < 0 := by
    rw [e]
    exact fun q => Nat.not_lt_zero n ((nI_ltI (b := 0) (by omega) (by decide)).mp q)
  rw [z, cln (by omega) e]
  exact ⟨by decide, by decide, l, by omega, by omega⟩
set_option maxRecDepth 100000 in
theorem g_copyFrom {I : MI} {J : MJ} {b g : Nat} {d : Nat → Int32} {Q : MI → MJ → Prop} (hne : g ≠ b) (W : WF d) (C : RC I J g d)
    (h : ∀ I' J', RC I' J' b d → (∀ b', b' ≠ b → I' b' = I b') → (∀ b', b' ≠ b → J' b' = J b') → Q I' J') : f_X1_copyFrom b g I J Q := by
  obtain ⟨n, hn, el⟩ := RC_len C
  refine ⟨pc6, fun I2 e2 => ⟨pc32, fun I4 e4 => ?_⟩⟩
  have s2 := (cpI.rfl (b := b) (g := g) (I := I)).row (n := 6) hne e2
  have s4 := s2.row (n := 32) hne e4
  have l4 : I4 g 2 2 = nI n := by rw [s4.2 g hne]; exact el
  refine ⟨pcn l4 hn, fun I5 e5 I6 e6 I7 e7 I8 e8 I9 e9 I10 e10 I11 e11 => ?_⟩
  rw [cln (by omega) l4] at e5
  have s5 := s4.row (n := n) hne e5
  have s6 := s5.cell hne e6
  have s7 := s6.cell hne e7
  have s8 := s7.cell hne e8
  have s9 := s8.cell hne e9
  have s10 := s9.cell hne e10
  have s11 := s10.cell hne e11
  refine ⟨pc240, fun I12 e12 => ⟨pc6, fun I13 e13 => ⟨pc6, fun I14 e14 => ⟨pc6, fun J15 e15 => ⟨pc6, fun I16 e16 => ⟨pc32, fun J17 e17 => ⟨pc4, fun I18 e18 => ⟨pc4, fun I19 e19 I20 e20 I21 e21 => ⟨?_, fun I22 e22 => ?_⟩⟩⟩⟩⟩⟩⟩⟩⟩
  all_goals
    have s12 := s11.row (n := 240) hne e12
    have s13 := s12.row (n := 6) hne e13
    have s14 := s13.row (n := 6) hne e14
    have s16 := s14.row (n := 6) hne e16
    have s18 := s16.row (n := 4) hne e18
    have s19 := s18.row (n := 4) hne e19
    have s20 := s19.cell hne e20
    have s21 := s20.cell hne e21
  · rw [s21.2 g hne]; exact RC_bo W C
  · have s22 := s21.cell hne e22
    have t15 := (cpJ.rfl (b := b) (g := g) (J := J)).row (n := 6) hne e15
    have t17 := t15.row (n := 32) hne e17
    refine h I22 J17 (RC_move W C (fun i h1 h2 => s22.1 1 i ?_) (fun i h1 h2 => s22.1 0 i ?_) (s22.1 2 2 ?_) (fun i hi => s22.1 3 i ?_) (fun i hi => s22.1 4 i ?_) (fun i hi => s22.1 5 i ?_) (fun i hi => s22.1 7 i ?_) (fun i hi => s22.1 8 i ?_) (fun i hi => s22.1 9 i ?_) (fun i hi => s22.1 11 i ?_) (fun i hi => s22.1 13 i ?_) (fun i hi => s22.1 14 i ?_) (fun i hi => t17.1 10 i ?_) (fun i hi => t17.1 12 i ?_)) s22.2 t17.2
    · rcases (show i = 3 ∨ i = 4 ∨ i = 5 ∨ i = 6 ∨ i = 7 by omega) with q | q | q | q | q <;> subst q <;> repeat first | exact Or.inr ⟨rfl, rfl⟩ | refine Or.inl ?_
    · rcases (show i = 9 ∨ i = 10 ∨ i = 11 by omega) with q | q | q <;> subst q <;> repeat first | exact Or.inr ⟨rfl, rfl⟩ | refine Or.inl ?_
    · repeat first | exact Or.inr ⟨rfl, rfl⟩ | refine Or.inl ?_
    · repeat first | exact Or.inr ⟨rfl, hi⟩ | refine Or.inl ?_
    · repeat first | exact Or.inr ⟨rfl, hi⟩ | refine Or.inl ?_
    · rw [el, nI_clamp (by omega)] at hi
      repeat first | exact Or.inr ⟨rfl, hi⟩ | refine Or.inl ?_
    · repeat first | exact Or.inr ⟨rfl, hi⟩ | refine Or.inl ?_
    · repeat first | exact Or.inr ⟨rfl, hi⟩ | refine Or.inl ?_
    · repeat first | exact Or.inr ⟨rfl, hi⟩ | refine Or.inl ?_
    · repeat first | exact Or.inr ⟨rfl, hi⟩ | refine Or.inl ?_
    · repeat first | exact Or.inr ⟨rfl, hi⟩ | refine Or.inl ?_
    · repeat first | exact Or.inr ⟨rfl, hi⟩ | refine Or.inl ?_
    · repeat first | exact Or.inr ⟨rfl, hi⟩ | refine Or.inl ?_
    · repeat first | exact Or.inr ⟨rfl, hi⟩ | refine Or.inl ?_
