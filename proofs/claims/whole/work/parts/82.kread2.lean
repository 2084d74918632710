/-! THE CLASS READS: numbers -/
theorem mn_if {a b : Nat} (ha : a < 2 ^ 31) (hb : b < 2 ^ 31) : (if nI a < nI b then nI a else nI b) = nI (min a b) := by
  by_cases q : a < b
  · rw [if_pos ((nI_ltI ha hb).mpr q), Nat.min_eq_left (by omega)]
  · rw [if_neg (fun z => q ((nI_ltI ha hb).mp z)), Nat.min_eq_right (by omega)]
theorem dv_s (tx : Nat → Nat) {j q : Nat} (h : j ≤ q) : dv tx j (q + 1 - j) = 10 * dv tx j (q - j) + (tx q - 48) := by
  rw [show q + 1 - j = (q - j) + 1 by omega]
  show 10 * dv tx j (q - j) + (tx (j + (q - j)) - 48) = _
  rw [show j + (q - j) = q by omega]
section KN
variable {I : MI} {J : MJ} {tx : Nat → Nat} {n i : Nat}
theorem k_number {x1 x2 : Int32} {lo hi : Nat} {Q : Int32 → MI → MJ → Prop} (h : KA tx n i I) (e1 : x1 = nI lo) (e2 : x2 = nI hi) (hlo : lo ≤ 9999) (hhi : hi ≤ 9999)
    (hQ : ∀ k v, spNum tx n lo hi i = .ok (k, v) → ∀ I', KA tx n k I' → fo I I' → I' 11 4 6 = nI v → I' 11 4 7 = nI (skp tx n i) → lo ≤ v → v ≤ hi → skp tx n i < k → Q 1 I' J) (hE : ∀ c o, spNum tx n lo hi i = .error (c, o) → ∀ I', ER c o I I' → Q 0 I' J) : f_X5_readNumber x1 x2 I J Q := by
  have z := skp_ok (tx := tx) (n := n) h.2.1
  have n6 := h.1
  refine k_peek h (fun I1 a f _ _ => k_digit _ (bt_le h _) rfl ?_)
  unfold spNum at hQ hE
  by_cases y : isD (bt tx n (skp tx n i)) = true
  · rw [if_pos y] at hQ hE ⊢
    have r := dend_ok (tx := tx) (n := n) z.1.2
    have gt : skp tx n i < dend tx n (skp tx n i) := by
      rcases Nat.lt_or_ge (skp tx n i) (dend tx n (skp tx n i)) with q | q
      · exact q
      · have e := r.2.1
        rw [show dend tx n (skp tx n i) = skp tx n i from Nat.le_antisymm q r.1.1] at e
        rw [e] at y; cases y
    refine q_f (by decide) (fun I8 e8 I9 e9 => ⟨_, up_mem (fun m (s : MI) => f_X5_readNumber_L34 (fun I_21 J_22 => f_X5_readNumber_J102 Q x1 x2 I_21 J_22) m s J) (fun q s => KA tx n q s ∧ fo I s ∧ s 11 4 7 = nI (skp tx n i) ∧ s 11 4 6 = nI (min 100000 (dv tx (skp tx n i) (q - skp tx n i)))) (skp tx n i) (dend tx n (skp tx n i)) r.1.1 (fun m s hs => ?_) (fun m s q h1 h2 hs ih => ?_) I9 ⟨?_, (f.trans (fo_put (Or.inr (Or.inr rfl)) e8)).trans (fo_put (Or.inr (Or.inl rfl)) e9), ?_, ?_⟩⟩)
    · show f_X5_readNumber_B34 _ _ s J
      obtain ⟨b, g, c, d⟩ := hs
      have fin : f_X5_readNumber_J102 Q x1 x2 s J := by
        have bad : ¬ (lo ≤ dv tx (skp tx n i) (dend tx n (skp tx n i) - skp tx n i) ∧ dv tx (skp tx n i) (dend tx n (skp tx n i) - skp tx n i) ≤ hi) → f_X5_readNumber_J118 Q s J := fun w => k_fail (skp tx n i) c (fun I' e => q_t rfl (hE _ _ (if_neg w) I' (g.ER e)))
        refine q_lt (min 100000 (dv tx (skp tx n i) (dend tx n (skp tx n i) - skp tx n i))) lo (by omega) (by omega) d e1 (fun w => bad (by omega)) (fun w => q_le (min 100000 (dv tx (skp tx n i) (dend tx n (skp tx n i) - skp tx n i))) hi (by omega) (by omega) d e2 (fun v => ?_) (fun v => bad (by omega)))
        have ok : lo ≤ dv tx (skp tx n i) (dend tx n (skp tx n i) - skp tx n i) ∧ dv tx (skp tx n i) (dend tx n (skp tx n i) - skp tx n i) ≤ hi := by omega
        exact hQ _ _ (if_pos ok) s b g (by rw [d, Nat.min_eq_right (by omega)]) c ok.1 ok.2 gt
      refine q_le n (dend tx n (skp tx n i)) (by omega) (by omega) b.2.2.1 b.2.2.2.1 (fun _ => fin) (fun w => ⟨vin _ 600 (by omega) (by decide) b.2.2.2.1, ?_⟩)
      rw [cln (by omega) b.2.2.2.1]
      refine k_digit _ (bt_le h _) (eB_in b w) ?_
      rw [r.2.1]
      exact q_t rfl fin
    · show f_X5_readNumber_B34 _ _ s J
      obtain ⟨b, g, c, d⟩ := hs
      have lt : q < n := by omega
      have dig := r.2.2 q h1 h2
      have t := KA_bt b lt
      have dt := isD_t dig
      have v6 : vp_in (s 11 4 4) 600 := vin _ 600 (by omega) (by decide) b.2.2.2.1
      refine q_le n q (by omega) (by omega) b.2.2.1 b.2.2.2.1 (fun w => absurd w (by omega)) (fun w => ⟨v6, ?_⟩)
      rw [cln (by omega) b.2.2.2.1]
      refine k_digit _ (bt_le h _) (eB_in b w) ?_
      rw [dig]
      refine q_f (by decide) ⟨v6, fun I19 e19 I20 e20 => ih I20 ⟨?_, (g.trans (fo_put (Or.inr (Or.inl rfl)) e19)).trans (fo_put (Or.inl rfl) e20), ?_, ?_⟩⟩
      · have a19 : KA tx n q I19 := KA_keep b (by rw [e19, sI_ot _ _ _ _ (by decide)]) (by rw [e19, sI_ot _ _ _ _ (by decide)]) (by rw [e19, sI_ro _ _ _ _ _ (by decide)])
        exact KA_put a19 (by omega) e20 (by rw [a19.2.2.2.1, nI_1])
      · rw [e20, sI_ot _ _ _ _ (by decide), e19, sI_ot _ _ _ _ (by decide)]; exact c
      · have ev : (((10 : Int32) * (s 11 4 6)) + (s 11 5 q)) - (48 : Int32) = nI (10 * min 100000 (dv tx (skp tx n i) (q - skp tx n i)) + bt tx n q - 48) := by
          rw [d, t.1, nlit 10, nlit 48, nmul, nI_add, nsub (by omega)]
        rw [e20, sI_ot _ _ _ _ (by decide), e19, sI_at, cln (by omega) b.2.2.2.1, ev, nlit 100000, mn_if (by omega) (by decide), dv_s tx h1, ← bt_in (tx := tx) lt]
        congr 1
        omega
    · have a8 : KA tx n (skp tx n i) I8 := KA_keep a (by rw [e8, sI_ot _ _ _ _ (by decide)]) (by rw [e8, sI_ot _ _ _ _ (by decide)]) (by rw [e8, sI_ro _ _ _ _ _ (by decide)])
      exact KA_keep a8 (by rw [e9, sI_ot _ _ _ _ (by decide)]) (by rw [e9, sI_ot _ _ _ _ (by decide)]) (by rw [e9, sI_ro _ _ _ _ _ (by decide)])
    · rw [e9, sI_ot _ _ _ _ (by decide), e8, sI_at]; exact a.2.2.2.1
    · rw [e9, sI_at, Nat.sub_self]; rfl
  · rw [if_neg y] at hE ⊢
    exact q_t rfl (k_fail (skp tx n i) a.2.2.2.1 (fun I' e => ⟨bo0, hE _ _ rfl I' (f.ER e)⟩))
end KN
