/-! COPIES: the model -/
def cpd (f g : Nat → Int32) (n : Nat) : Nat → Int32 := fun i => if i < n then f i else g i
theorem cpd_0 (f g : Nat → Int32) : cpd f g 0 = g := by
  funext i
  exact if_neg (by omega)
theorem cpd_s (f g : Nat → Int32) (n : Nat) : upd (cpd f g n) n (f n) = cpd f g (n + 1) := by
  funext i
  by_cases q : i = n
  · subst q
    rw [upd_at]
    unfold cpd
    rw [if_pos (by omega)]
  · rw [upd_ot _ _ q]
    unfold cpd
    by_cases z : i < n
    · rw [if_pos z, if_pos (by omega)]
    · rw [if_neg z, if_neg (by omega)]
theorem m_copy {I : MI} {J : MJ} {b1 r1 n1 b2 r2 n2 n : Nat} {x : Int32} {Q : MI → MJ → Prop} (e : x = nI n) (hd : ¬ (b1 = b2 ∧ r1 = r2)) (h1 : n ≤ n1) (h2 : n ≤ n2) (hn1 : n1 < 2 ^ 31) (hn2 : n2 < 2 ^ 31) (h : Q (rI I b2 r2 (cpd (I b1 r1) (I b2 r2) n)) J) : f_X8_copy b1 r1 n1 b2 r2 n2 x I J Q := by
  refine ⟨n + 1, up_inv (fun m (s : MI) j => f_X8_copy_L2 b1 r1 n1 b2 r2 n2 x _ m j s J) (fun i s => s = rI I b2 r2 (cpd (I b1 r1) (I b2 r2) i)) n (fun m s hs => ?_) (fun m s i hi hs ih => ?_) I (by rw [cpd_0]; exact (rI_id I b2 r2).symm)⟩
  · show f_X8_copy_B2 _ _ _ _ _ _ _ _ _ _ s J
    exact q_t (by rw [e]; exact Int32.le_refl _) (by rw [hs]; exact h)
  · show f_X8_copy_B2 _ _ _ _ _ _ _ _ _ _ s J
    refine q_f (by rw [e]; exact nge hi (by omega)) ⟨vin i n1 (by omega) hn1 rfl, vin i n2 (by omega) hn2 rfl, fun s2 es2 j ej => ih s2 j ?_ (by rw [ej, nI_1])⟩
    have c1 : s b1 r1 = I b1 r1 := by rw [hs]; exact rI_ne hd
    have c2 : s b2 r2 = cpd (I b1 r1) (I b2 r2) i := by rw [hs, rI_same]
    rw [es2, nI_clamp (show i < 2 ^ 31 by omega)]
    show rI s b2 r2 (upd (s b2 r2) i (s b1 r1 i)) = _
    rw [c1, c2, cpd_s, hs, rI_rI]
