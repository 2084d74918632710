/-! LEADERS AND THREATS, on both sides -/
theorem up_invF {σ : Type} (Lp : Nat → σ → Int32 → Prop) (Inv : Nat → σ → Prop) (i0 n : Nat) (hi0 : i0 ≤ n) (hend : ∀ (m : Nat) (s : σ), Inv n s → Lp (m + 1) s (nI n))
    (hstep : ∀ (m : Nat) (s : σ) (i : Nat), i0 ≤ i → i < n → Inv i s → (∀ (s' : σ) (j : Int32), Inv (i + 1) s' → j = nI (i + 1) → Lp m s' j) → Lp (m + 1) s (nI i)) (s : σ) (h : Inv i0 s) : Lp (n - i0 + 1) s (nI i0) := by
  have key : ∀ k i : Nat, i0 ≤ i → i + k = n → ∀ s, Inv i s → Lp (k + 1) s (nI i) := by
    intro k
    induction k with
    | zero =>
      intro i _ hi s hs
      have : i = n := by omega
      subst this
      exact hend 0 s hs
    | succ k ih =>
      intro i h0 hi s hs
      refine hstep (k + 1) s i h0 (by omega) hs (fun s' j hs' ej => ?_)
      rw [ej]
      exact ih (i + 1) (by omega) (by omega) s' hs'
  exact key (n - i0) i0 (Nat.le_refl _) (by omega) s h
/-- the first of the players with the most points -/
def ldr (d : Nat → Int32) : Nat → Nat
  | 0 => 0
  | n + 1 => if d (pA n) ≤ d (pA (ldr d n)) then ldr d n else n
theorem ldr_lt (d : Nat → Int32) : ∀ {n : Nat}, 0 < n → ldr d n < n
  | 0, h => absurd h (by omega)
  | n + 1, _ => by
    show (if _ then ldr d n else n) < n + 1
    split
    · rcases Nat.eq_zero_or_pos n with q | q
      · subst q; exact Nat.zero_lt_one
      · have := ldr_lt d q; omega
    · omega
def mLead (d : Nat → Int32) : Nat := ldr d (dn d 1)
/-- a word of a player fills a row -/
def cFn (d : Nat → Int32) (p r : Nat) : Nat → Bool
  | 0 => false
  | n + 1 => cFn d p r n || (decide (mHin d p n r = 0) && decide (mLen d p n = mFree d r))
theorem cFn_mono {d : Nat → Int32} {p r i : Nat} (h : cFn d p r i = true) : ∀ k, cFn d p r (i + k) = true
  | 0 => h
  | k + 1 => by
    show (cFn d p r (i + k) || _) = true
    rw [cFn_mono h k]; rfl
def canF (d : Nat → Int32) (p r : Nat) : Bool := cFn d p r (mMany d p)
def thr (d : Nat → Int32) (r : Nat) : Nat → Nat
  | 0 => 0
  | p + 1 => if canF d p r then thr d r p ||| 2 ^ p else thr d r p
theorem or_lt4 : ∀ m, m < 16 → ∀ p, p < 4 → m ||| 2 ^ p < 16 := by decide
theorem or_bit : ∀ m, m < 16 → ∀ p, p < 4 → (nI m ||| ((1 : Int32) <<< (nI p &&& 31))) = nI (m ||| 2 ^ p) := by decide +kernel
theorem or_twice : ∀ m, m < 16 → ∀ p, p < 4 → (m ||| 2 ^ p) ||| 2 ^ p = m ||| 2 ^ p := by decide
theorem thr_lt (d : Nat → Int32) (r : Nat) : ∀ p, p ≤ 4 → thr d r p < 16
  | 0, _ => (by decide : 0 < 16)
  | p + 1, h => by
    have ih := thr_lt d r p (by omega)
    show (if canF d p r then thr d r p ||| 2 ^ p else thr d r p) < 16
    split
    · exact or_lt4 _ ih p (by omega)
    · exact ih
section HM
variable {I : MI} {J : MJ}
theorem m_lead {K : Int32 → MI → MJ → Prop} (W : WF (I 12 2)) (h : K (nI (mLead (I 12 2))) I J) : ∃ n, f_X8_winner_L31 K n 0 1 I J := by
  have hp := W.2.1.2.1
  refine ⟨dn (I 12 2) 1 - 1 + 1, up_invF (fun m (s : Int32) j => f_X8_winner_L31 K m s j I J) (fun i s => s = nI (ldr (I 12 2) i)) 1 (dn (I 12 2) 1) (by omega) (fun m s hs => ?_) (fun m s i h1 hi hs ih => ?_) 0 ?_⟩
  · show f_X8_winner_B31 _ _ _ _ I J
    exact ⟨vin 1 _ (by decide) (by decide) rfl, q_t (by rw [c1 W]; exact Int32.le_refl _) (by rw [hs]; exact h)⟩
  · show f_X8_winner_B31 _ _ _ _ I J
    have hl := ldr_lt (I 12 2) (show 0 < i by omega)
    refine ⟨vin 1 _ (by decide) (by decide) rfl, q_f (by rw [c1 W]; exact nge hi (by omega)) (m_ofPlayer i 0 rfl rfl (by omega) (by decide) (m_ofPlayer (ldr (I 12 2) i) 0 hs rfl (by omega) (by decide) ⟨fun q j ej => ih _ j ?_ (by rw [ej, nI_1]), fun q j ej => ih _ j ?_ (by rw [ej, nI_1])⟩))⟩
    · show s = nI (if _ then _ else _)
      rw [if_pos (show I 12 2 (pA i) ≤ I 12 2 (pA (ldr (I 12 2) i)) from q)]; exact hs
    · show nI i = nI (if _ then _ else _)
      rw [if_neg (show ¬ I 12 2 (pA i) ≤ I 12 2 (pA (ldr (I 12 2) i)) from q)]
  · show (0 : Int32) = nI (if _ then _ else _)
    split <;> rfl
/-- one player's words -/
theorem m_threat1 {K : Int32 → MI → MJ → Prop} (W : WF (I 12 2)) (p r : Nat) {x1 x3 : Int32} (e1 : x1 = nI r) (e3 : x3 = nI p) (hp : p < 4) (hr : r < 6) (m0 : Nat) (h0 : m0 < 16) (h : K (nI (if canF (I 12 2) p r then m0 ||| 2 ^ p else m0)) I J) : f_X8_threats_L32 x1 x3 K (mMany (I 12 2) p + 1) (nI m0) 0 I J := by
  have w := W.2.2.2 p hp
  have wr := W.2.2.1 r hr
  refine up_inv (fun m (s : Int32) j => f_X8_threats_L32 x1 x3 K m s j I J) (fun i s => s = nI (if cFn (I 12 2) p r i then m0 ||| 2 ^ p else m0)) (mMany (I 12 2) p) (fun m s hs => ?_) (fun m s i hi hs ih => ?_) (nI m0) rfl
  · show f_X8_threats_B32 _ _ _ _ _ _ I J
    exact m_many W p e3 hp (q_t (Int32.le_refl _) (by rw [hs]; exact h))
  · show f_X8_threats_B32 _ _ _ _ _ _ I J
    have hb : mHin (I 12 2) p i r < 5 := by
      unfold mHin
      repeat' split
      all_goals omega
    have hl := (w.2 i hi).1
    refine m_many W p e3 hp (q_f (nge hi (by omega)) (m_hinders W p i r e3 rfl e1 hp hi hr (q_eq (mHin (I 12 2) p i r) 0 (by omega) (by decide) rfl rfl (fun q => ?_) (fun q j ej => ih s j ?_ (by rw [ej, nI_1])))))
    · refine m_lengthOf p i e3 rfl hp (by omega) (m_free W r e1 hr (q_eq (mLen (I 12 2) p i) (mFree (I 12 2) r) (by omega) (by show _ - _ < _; omega) (w_len W hp (by omega)) rfl (fun q2 z ez j ej => ih z j ?_ (by rw [ej, nI_1])) (fun q2 j ej => ih s j ?_ (by rw [ej, nI_1]))))
      · have e : cFn (I 12 2) p r (i + 1) = true := by
          show (_ || _) = true
          rw [decide_eq_true q, decide_eq_true q2, Bool.and_self, Bool.or_true]
        rw [if_pos e, ez, hs, e3]
        by_cases g : cFn (I 12 2) p r i = true
        · rw [if_pos g, or_bit _ (or_lt4 m0 h0 p hp) p hp, or_twice m0 h0 p hp]
        · rw [if_neg g, or_bit m0 h0 p hp]
      · have e : cFn (I 12 2) p r (i + 1) = cFn (I 12 2) p r i := by
          show (_ || _) = _
          rw [decide_eq_false q2, Bool.and_false, Bool.or_false]
        rw [e]; exact hs
    · have e : cFn (I 12 2) p r (i + 1) = cFn (I 12 2) p r i := by
        show (_ || _) = _
        rw [decide_eq_false q, Bool.false_and, Bool.or_false]
      rw [e]; exact hs
theorem m_threats {K : Int32 → MI → MJ → Prop} (W : WF (I 12 2)) (r : Nat) {x1 : Int32} (e1 : x1 = nI r) (hr : r < 6) (h : K (nI (thr (I 12 2) r (dn (I 12 2) 1))) I J) : ∃ n, f_X8_threats_L19 x1 K n 0 0 I J := by
  have hp := wf_pls W
  refine ⟨dn (I 12 2) 1 + 1, up_inv (fun m (s : Int32) j => f_X8_threats_L19 x1 K m s j I J) (fun i s => s = nI (thr (I 12 2) r i)) (dn (I 12 2) 1) (fun m s hs => ?_) (fun m s i hi hs ih => ?_) 0 rfl⟩
  · show f_X8_threats_B19 _ _ _ _ _ I J
    exact ⟨vin 1 _ (by decide) (by decide) rfl, q_t (by rw [c1 W]; exact Int32.le_refl _) (by rw [hs]; exact h)⟩
  · show f_X8_threats_B19 _ _ _ _ _ I J
    refine ⟨vin 1 _ (by decide) (by decide) rfl, q_f (by rw [c1 W]; exact nge hi (by omega)) ⟨mMany (I 12 2) i + 1, ?_⟩⟩
    rw [hs]
    exact m_threat1 W i r e1 rfl (by omega) hr (thr (I 12 2) r i) (thr_lt _ r i (by omega)) (fun j ej => ih _ j rfl (by rw [ej, nI_1]))
end HM
section HG
variable {I : MI} {J : MJ} {d : Nat → Int32} {b : Nat}
theorem g_leader {Q : Int32 → MI → MJ → Prop} (W : WF d) (C : RC I J b d) (h : Q (nI (mLead d)) I J) : f_X1_leader b I J Q := by
  have hp := W.2.1.2.1
  refine ⟨dn d 1 - 1 + 1, up_invF (fun m (s : Int32) j => f_X1_leader_L4 b _ m s j I J) (fun i s => s = nI (ldr d i)) 1 (dn d 1) (by omega) (fun m s hs => ?_) (fun m s i h1 hi hs ih => ?_) 0 ?_⟩
  · show f_X1_leader_B4 _ _ _ _ _ I J
    exact q_t (by rw [e_pls W C]; exact Int32.le_refl _) (by rw [hs]; exact h)
  · show f_X1_leader_B4 _ _ _ _ _ I J
    have hl := ldr_lt d (show 0 < i by omega)
    have p1 := (C.2.2.2.1 i hi).2.1
    have p2 := (C.2.2.2.1 (ldr d i) (by omega)).2.1
    refine q_f (by rw [e_pls W C]; exact nge hi (by omega)) ⟨vin i 4 (by omega) (by decide) rfl, vin (ldr d i) 4 (by omega) (by decide) hs, ?_⟩
    rw [nI_clamp (show i < 2 ^ 31 by omega), cln (by omega) hs, p1, p2]
    refine ⟨fun q j ej => ih _ j ?_ (by rw [ej, nI_1]), fun q j ej => ih _ j ?_ (by rw [ej, nI_1])⟩
    · show s = nI (if _ then _ else _)
      rw [if_pos q]; exact hs
    · show nI i = nI (if _ then _ else _)
      rw [if_neg q]
  · show (0 : Int32) = nI (if _ then _ else _)
    split <;> rfl
theorem g_canFill {x1 x2 : Int32} {Q : Int32 → MI → MJ → Prop} (W : WF d) (C : RC I J b d) (p r : Nat) (e1 : x1 = nI p) (e2 : x2 = nI r) (hp : p < dn d 1) (hr : r < dn d 0) (h : Q (if canF d p r then 1 else 0) I J) : f_X1_canFill b x1 x2 I J Q := by
  have h4 := wf_pls W
  have h6 := wf_rows W
  have w := W.2.2.2 p (by omega)
  have wr := W.2.2.1 r (by omega)
  refine ⟨mMany d p + 1, up_inv (fun m (_ : Unit) j => f_X1_canFill_L2 b x1 x2 _ _ m j I J) (fun i _ => cFn d p r i = false) (mMany d p) (fun m s hs => ?_) (fun m s i hi hs ih => ?_) () rfl⟩
  · show f_X1_canFill_B2 _ _ _ _ _ _ _ I J
    refine ⟨vin p 4 (by omega) (by decide) e1, q_t (by rw [cln (by omega) e1, e_many W C hp]; exact Int32.le_refl _) ?_⟩
    rw [show canF d p r = false from hs, if_neg (by decide)] at h
    exact h
  · show f_X1_canFill_B2 _ _ _ _ _ _ _ I J
    have hb : gObs d (wA p i + 1) (mLen d p i) r < 5 := by
      unfold gObs
      repeat' split
      all_goals omega
    have hl := (w.2 i hi).1
    have wd := wrd_hand W (show p < 4 by omega) hi
    refine ⟨vin p 4 (by omega) (by decide) e1, q_f (by rw [cln (by omega) e1, e_many W C hp]; exact nge hi (by omega)) (g_wordOf W C p i e1 rfl hp hi (k_len _ _ wd rfl (g_free W C r e2 hr (q_eq (mLen d p i) (mFree d r) (by omega) (by show _ - _ < _; omega) rfl rfl (fun q => g_obstacle W C _ _ r wd rfl e2 hr (q_eq (gObs d (wA p i + 1) (mLen d p i) r) 0 (by omega) (by decide) rfl rfl (fun q2 => ?_) (fun q2 j ej => ih () j ?_ (by rw [ej, nI_1])))) (fun q j ej => ih () j ?_ (by rw [ej, nI_1]))))))⟩
    · have e : cFn d p r (i + 1) = true := by
        show (_ || _) = true
        rw [decide_eq_true (show mHin d p i r = 0 from q2), decide_eq_true q, Bool.and_self, Bool.or_true]
      have e2 : canF d p r = true := by
        have := cFn_mono e (mMany d p - (i + 1))
        rw [show i + 1 + (mMany d p - (i + 1)) = mMany d p by omega] at this
        exact this
      rw [if_pos e2] at h
      exact h
    · show (_ || _) = false
      rw [hs, decide_eq_false (show ¬ mHin d p i r = 0 from q2), Bool.false_and, Bool.or_false]
    · show (_ || _) = false
      rw [hs, decide_eq_false q, Bool.and_false, Bool.or_false]
end HG
