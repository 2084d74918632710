/-! A WORD LAID: the class' loops -/
def putP (I : MI) (b r u a : Nat) (d : Nat → Int32) (m : Nat) (s : MI) : Prop :=
  (∀ j, j < m → s b 7 (40 * r + u + j) = d (a + j)) ∧ (∀ i, (i < 40 * r + u ∨ 40 * r + u + m ≤ i) → s b 7 i = I b 7 i) ∧ s b 8 r = nI (u + m) ∧ (∀ i, i ≠ r → s b 8 i = I b 8 i) ∧ ∀ b' q, ¬ (b' = b ∧ (q = 7 ∨ q = 8)) → s b' q = I b' q
theorem g_putLetters {I : MI} {J : MJ} {b r u a n : Nat} {d : Nat → Int32} {x1 : Int64} {x3 : Int32} {Q : MI → MJ → Prop} (w : wrd d a n) (e1 : x1 = lN (pkN d a n)) (e3 : x3 = nI r) (hr : r < 6) (hu : u + n ≤ 40) (h8 : I b 8 r = nI u) (h : ∀ I', putP I b r u a d n I' → Q I' J) : f_X1_putLetters b x1 x3 I J Q := by
  have v6 : vp_in x3 6 := vin r 6 hr (by decide) e3
  have c3 : x3.toNatClampNeg = r := cln (by omega) e3
  refine k_len a n w e1 ⟨n + 1, up_inv (fun m (s : MI) j => f_X1_putLetters_L9 b x1 x3 (nI n) _ m j s J) (fun i s => putP I b r u a d i s) n (fun m s hs => ?_) (fun m s i hi hs ih => ?_) I ⟨fun j hj => absurd hj (by omega), fun _ _ => rfl, h8, fun _ _ => rfl, fun _ _ _ => rfl⟩⟩
  · show f_X1_putLetters_B9 _ _ _ _ _ _ _ s J
    exact q_t (Int32.le_refl _) (h s hs)
  · show f_X1_putLetters_B9 _ _ _ _ _ _ _ s J
    obtain ⟨p1, p2, p3, p4, p5⟩ := hs
    have e40 : x3 * 40 + s b 8 r = nI (40 * r + u + i) := by rw [p3, e3, nlit 40, nmul, nI_add, Nat.mul_comm r 40, Nat.add_assoc]
    refine q_f (nge hi (by omega)) ⟨v6, ?_⟩
    rw [c3]
    refine q_f (by rw [p3]; exact nge (n := 40) (by omega) (by decide)) ⟨v6, k_letter a n i w e1 rfl hi ⟨vin (40 * r + u + i) 240 (by omega) (by decide) e40, fun I18 e18 => ⟨v6, v6, fun I21 e21 j ej => ih I21 j ?_ (by rw [ej, nI_1])⟩⟩⟩
    rw [cln (show 40 * r + u + i < 2 ^ 31 by omega) e40] at e18
    have k8 : I18 b 8 = s b 8 := by rw [e18]; exact sI_ro _ _ _ _ _ (by decide)
    rw [k8, p3, nI_1] at e21
    have k7 : I21 b 7 = I18 b 7 := by rw [e21]; exact sI_ro _ _ _ _ _ (by decide)
    refine ⟨fun j hj => ?_, fun j hj => ?_, ?_, fun j hj => ?_, fun b' q hq => ?_⟩
    · rw [k7, e18]
      by_cases z : j = i
      · subst z; exact sI_at _ _ _ _ _
      · rw [sI_ot _ _ _ _ (by omega)]; exact p1 j (by omega)
    · rw [k7, e18, sI_ot _ _ _ _ (by omega)]; exact p2 j (by omega)
    · rw [e21, sI_at, Nat.add_assoc]
    · rw [e21, sI_ot _ _ _ _ hj, k8]; exact p4 j hj
    · have a1 : I21 b' q = I18 b' q := by rw [e21]; unfold sI; exact rI_ne (fun z => hq ⟨z.1, Or.inr z.2⟩)
      have a2 : I18 b' q = s b' q := by rw [e18]; unfold sI; exact rI_ne (fun z => hq ⟨z.1, Or.inl z.2⟩)
      rw [a1, a2]; exact p5 b' q hq
def remP (J : MJ) (b t k i : Nat) (s : MJ) : Prop :=
  (∀ q, k ≤ q → q < i → s b 12 (8 * t + q) = J b 12 (8 * t + (q + 1))) ∧ (∀ x, (x < 8 * t + k ∨ 8 * t + i ≤ x) → s b 12 x = J b 12 x) ∧ ∀ b' q, ¬ (b' = b ∧ q = 12) → s b' q = J b' q
theorem g_removeWord {I : MI} {J : MJ} {b t k c : Nat} {x1 x2 : Int32} {Q : MI → MJ → Prop} (e1 : x1 = nI t) (e2 : x2 = nI k) (ht : t < 4) (hk : k < c) (hc : c ≤ 8) (h13 : I b 13 t = nI c) (h : ∀ J', remP J b t k (c - 1) J' → Q (sI I b 13 t (nI (c - 1))) J') : f_X1_removeWord b x1 x2 I J Q := by
  have v4 : vp_in x1 4 := vin t 4 ht (by decide) e1
  have c1 : x1.toNatClampNeg = t := cln (by omega) e1
  intro x3 e3
  have e3' : x3 = nI (8 * t) := by rw [e3, e1, nlit 8, nmul, Nat.mul_comm]
  refine ⟨v4, v4, fun I4 e4 => ⟨c - 1 - k + 1, ?_⟩⟩
  rw [c1, h13, nlit 1, nsub (show 1 ≤ c by omega)] at e4
  have k4 : I4 b 13 t = nI (c - 1) := by rw [e4, sI_at]
  rw [e2]
  refine up_invF (fun m (s : MJ) j => f_X1_removeWord_L18 b x1 x3 _ m j I4 s) (fun i s => remP J b t k i s) k (c - 1) (by omega) (fun m s hs => ?_) (fun m s i hi0 hi hs ih => ?_) J ⟨fun q a c => absurd c (by omega), fun _ _ => rfl, fun _ _ _ => rfl⟩
  · show f_X1_removeWord_B18 _ _ _ _ _ _ I4 s
    refine ⟨v4, q_t (by rw [c1, k4]; exact Int32.le_refl _) ?_⟩
    rw [e4]; exact h s hs
  · show f_X1_removeWord_B18 _ _ _ _ _ _ I4 s
    obtain ⟨p1, p2, p3⟩ := hs
    have q0 : x3 + nI i = nI (8 * t + i) := by rw [e3', nI_add]
    have q1 : (x3 + nI i) + 1 = nI (8 * t + i + 1) := by rw [q0, nI_1]
    refine ⟨v4, q_f (by rw [c1, k4]; exact nge hi (by omega)) ⟨vin (8 * t + i + 1) 32 (by omega) (by decide) q1, vin (8 * t + i) 32 (by omega) (by decide) q0, fun J14 e14 j ej => ih J14 j ?_ (by rw [ej, nI_1])⟩⟩
    rw [cln (show 8 * t + i + 1 < 2 ^ 31 by omega) q1, cln (show 8 * t + i < 2 ^ 31 by omega) q0, p2 (8 * t + i + 1) (by omega)] at e14
    refine ⟨fun q a c => ?_, fun x hx => ?_, fun b' q hq => ?_⟩
    · rw [e14]
      by_cases z : q = i
      · subst z; rw [sJ_at, Nat.add_assoc]
      · rw [sJ_ot _ _ _ _ (by omega)]; exact p1 q a (by omega)
    · rw [e14, sJ_ot _ _ _ _ (by omega)]; exact p2 x (by omega)
    · rw [e14]; unfold sJ; rw [rJ_ne hq]; exact p3 b' q hq
