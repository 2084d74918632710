/-! CHAINS: the class goes on from each set -/
theorem bit_or : ∀ m, m < 256 → ∀ k, k < 8 → (m.testBit k = true ∨ m ||| 2 ^ k = m + 2 ^ k) := by decide +kernel
theorem add_lt {m k n : Nat} (h8 : n ≤ 8) (hm : m < 2 ^ n) (hk : k < n) (h : m.testBit k = false) : m + 2 ^ k < 2 ^ n := by
  have p8 := pw_8 n h8
  rcases bit_or m (by omega) k (by omega) with q | q
  · rw [h] at q; cases q
  · rw [← q]
    exact Nat.or_lt_two_pow hm (Nat.pow_lt_pow_right (by decide) hk)
section CE
variable {I : MI} {J : MJ} {d : Nat → Int32} {p r : Nat}
theorem cB0_le (W : WF d) (hp : p < 4) (hr : r < 6) {P t l : Nat} (hl : l < mMany d p) : cB0 d p r P t l ≤ 10000 := by
  unfold cB0
  split
  · exact Nat.le_of_lt (mPts_lt W hp hl hr)
  · exact Nat.zero_le _
theorem cB_le (W : WF d) (hp : p < 4) (hr : r < 6) {P N t l : Nat} (ht : t < 2 ^ mMany d p) (hl : l < mMany d p) : cB d p r P N t l ≤ 1000000 := by
  unfold cB
  refine Nat.max_le.mpr ⟨Nat.le_trans (cB0_le W hp hr hl) (by decide), maxN_le _ (fun b hb => ?_)⟩
  split
  · unfold cBg
    split
    · next q => exact Nat.le_trans (cBf_le W hp hr ht q.1 hb) (by decide)
    · exact Nat.zero_le _
  · exact Nat.zero_le _
abbrev kcN (d : Nat → Int32) (p r N : Nat) (I s : MI) : Prop := kcT d p r I (cW d p r (mMany d p) N) (cB d p r (mMany d p) N) s
theorem k_ext47 {x1 x2 x3 x4 x5 : Int32} {K : MI → MJ → Prop} (W : WF d) (P : kcP d p r I) (hp : p < 4) (hr : r < 6) (t L : Nat) (h0 : 0 < t) (ht : t < 2 ^ mMany d p) (hL : L < mMany d p) (e1 : x1 = nI t) (e2 : x2 = nI (mFree d r) - nI (sBit d p t)) (e3 : x3 = nI (mWds d r + pop t + 1)) (e4 : x4 = nI L) (e5 : x5 = nI (8 * t + L)) (s : MI) (hs : kcN d p r (t * 64 + L * 8) I s)
    (h : ∀ s', kcN d p r (t * 64 + (L + 1) * 8) I s' → K s' J) : f_X0_extend_L47 x1 x2 x3 x4 x5 K (mMany d p + 1) 0 s J := by
  have w := W.2.2.2 p hp
  have wr := W.2.2.1 r hr
  have h8 := w.1
  have p8 := pw_8 _ h8
  have hsb := sBit_le W hp ht
  have hfr : mFree d r ≤ 40 := by show mTil d r - mUse d r ≤ 40; omega
  have b3 : dn d 3 ≤ 9 := W.2.1.2.2.2.1
  have Wlt := chW_lt (r := r) (t := t) W hp L (by omega)
  have Ble := chB_le (r := r) W hp hr t L ht
  have hpop := pop_le t (by omega)
  obtain ⟨P7, P8, P9, P10, P11, PL, PE⟩ := id P
  refine up_inv (fun m (s : MI) j => f_X0_extend_L47 x1 x2 x3 x4 x5 K m j s J) (fun Q s => kcN d p r (t * 64 + L * 8 + Q) I s) (mMany d p) (fun m s hs => ?_) (fun m s Q hQ hs ih => ?_) s hs
  · show f_X0_extend_B47 _ _ _ _ _ _ _ _ s J
    refine q_t (by rw [hs.2.1 7 (by decide), P7]; exact Int32.le_refl _) (h s (kcT_congr hs (fun t' l h1 h2 => ?_)))
    have z := cW_skip (d := d) (p := p) (r := r) (P := mMany d p) (s := t) (L := L) (Q := mMany d p) (t := t') h8 (by omega) h8 h2 (Or.inl (Nat.le_refl _))
    exact ⟨z.1.symm, z.2.symm⟩
  · show f_X0_extend_B47 _ _ _ _ _ _ _ _ s J
    have v5 : vp_in x5 2048 := vin _ _ (by omega) (by decide) e5
    have c5 : x5.toNatClampNeg = 8 * t + L := cln (by omega) e5
    have ew : s 11 7 (8 * t + L) = nI (chW d p r t L) := by rw [(hs.2.2.1 t L ht hL).1, cW_full h8 hL (by omega)]
    have eb : s 11 8 (8 * t + L) = nI (chB d p r t L) := by rw [(hs.2.2.1 t L ht hL).2, cB_full h8 hL (by omega)]
    refine q_f (by rw [hs.2.1 7 (by decide), P7]; exact nge hQ (by omega)) ⟨v5, ?_⟩
    rw [c5, ew]
    refine q_le (chW d p r t L) 0 Wlt (by decide) rfl rfl (fun z => ?_) (fun z => ?_)
    · refine h s (kcT_congr hs (fun t' l h1 h2 => ?_))
      have y := cW_skip (d := d) (p := p) (r := r) (P := mMany d p) (s := t) (L := L) (Q := Q) (t := t') h8 (by omega) (by omega) h2 (Or.inr (by omega))
      exact ⟨y.1.symm, y.2.symm⟩
    · have hfit : sBit d p t ≤ mFree d r := by
        rcases Nat.lt_or_ge (mFree d r) (sBit d p t) with y | y
        · rw [chW_no (fun q => absurd q.2 (by omega))] at z; exact absurd z (by decide)
        · exact y
      have stepW := fun t' l (h1 : t' < 2 ^ mMany d p) (h2 : l < mMany d p) => cW_step (d := d) (p := p) (r := r) (P := mMany d p) (s := t) (L := L) (Q := Q) (t := t') (l := l) (by omega) (by omega) hL h8 (by omega) (by omega) (by omega) (by omega)
      have stepB := fun t' l (h1 : t' < 2 ^ mMany d p) (h2 : l < mMany d p) => cB_step (d := d) (p := p) (r := r) (P := mMany d p) (s := t) (L := L) (Q := Q) (t := t') (l := l) (by omega) (by omega) hL h8 (by omega) (by omega) (by omega) (by omega)
      have skip : (t.testBit Q = false → cWg d p r (t + 2 ^ Q) Q L = 0) → ∀ j : Int32, j = nI Q + 1 → f_X0_extend_L47 x1 x2 x3 x4 x5 K m j s J := fun y j ej => ih s j (kcT_congr hs (fun t' l h1 h2 => by
        have a1 := stepW t' l h1 h2
        have a2 := stepB t' l h1 h2
        by_cases c : t.testBit Q = false ∧ t' = t + 2 ^ Q ∧ l = Q
        · have y2 := y c.1
          rw [if_pos c, c.2.1, c.2.2, y2] at a1
          rw [if_pos c, c.2.1, c.2.2, cBg_W y2] at a2
          rw [c.2.1, c.2.2]
          exact ⟨a1, a2.trans (Nat.max_eq_left (Nat.zero_le _))⟩
        · rw [if_neg c] at a1 a2
          exact ⟨a1, a2.trans (Nat.max_eq_left (Nat.zero_le _))⟩)) (by rw [ej, nI_1])
      have ei : (x4 * (8 : Int32)) + nI Q = nI (8 * L + Q) := by rw [e4, nlit 8, nmul, nI_add, Nat.mul_comm]
      refine ⟨vin _ _ (by omega) (by decide) ei, fun x7 e7 => ?_⟩
      rw [cln (by omega) ei, hs.1 11 10 (by decide), PE L Q hL hQ] at e7
      have ebit : (x1 &&& ((1 : Int32) <<< (nI Q &&& 31))) = nI (if t.testBit Q then 2 ^ Q else 0) := by rw [e1]; exact b_and t (by omega) Q (by omega)
      have pQ := Nat.two_pow_pos Q
      have lQ : 2 ^ Q < 2 ^ 8 := Nat.pow_lt_pow_right (by decide) (by omega)
      rw [ebit]
      by_cases hB : t.testBit Q = true
      · rw [if_pos hB]
        exact q_eq (2 ^ Q) 0 (by omega) (by decide) rfl rfl (fun q => absurd q (by omega)) (fun _ => q_t rfl (skip (fun y => by rw [hB] at y; cases y)))
      · have hB0 : t.testBit Q = false := Bool.eq_false_iff.mpr hB
        rw [if_neg hB]
        refine q_t rfl (q_f (by decide) ?_)
        have ad := bit_add t (by omega) Q (by omega) hB0
        have sadd := sBit_add (d := d) (p := p) (show t < 256 by omega) (show Q < 8 by omega) hB0
        have lenQ := ((w.2 Q hQ).1).2
        have eg : cWg d p r (t + 2 ^ Q) Q L = if sBit d p t + mLen d p Q ≤ mFree d r then (if chF d p L Q = true then chW d p r t L else 0) else 0 := by
          unfold cWg cWf
          rw [Nat.add_sub_cancel, sadd]
          by_cases y : sBit d p t + mLen d p Q ≤ mFree d r
          · rw [if_pos ⟨ad.2.1, y, by omega⟩, if_pos y]
          · rw [if_neg (fun q => y q.2.1), if_neg y]
        by_cases hF : chF d p L Q = true
        · rw [if_pos hF] at e7
          have hR := chR_le (d := d) (p := p) L Q
          have lenL := ((w.2 L hL).1).2
          have ne : ¬ x7 = (-1 : Int32) := by
            rw [e7]
            intro q
            have := congrArg Int32.toInt q
            rw [nI_toInt (by omega)] at this
            have z1 : (-1 : Int32).toInt = -1 := by decide
            omega
          have e9 : s 11 9 Q = nI (mLen d p Q) := by rw [hs.1 11 9 (by decide)]; exact PL Q hQ
          have q2 : x2 = nI (mFree d r - sBit d p t) := by rw [e2]; exact nsub hfit
          have vQ : vp_in (nI Q) 8 := vin Q 8 (by omega) (by decide) rfl
          rw [nI_clamp (show Q < 2 ^ 31 by omega), e9]
          refine q_f ne ⟨vQ, q_lt (mFree d r - sBit d p t) (mLen d p Q) (by omega) (by omega) q2 rfl (fun y => skip (fun _ => ?_)) (fun y => ⟨vQ, vQ, ?_⟩)⟩
          · rw [eg, if_neg (by omega)]
          · have hfQ : sBit d p t + mLen d p Q ≤ mFree d r := by omega
            have gW : cWg d p r (t + 2 ^ Q) Q L = chW d p r t L := by rw [eg, if_pos hfQ, if_pos hF]
            have gB : cBg d p r (t + 2 ^ Q) Q L = chB d p r t L + mLen d p Q + dn d 3 * chR d p L Q + chC d p r (t + 2 ^ Q) := by
              unfold cBg cBf
              rw [Nat.add_sub_cancel, sadd, if_pos ⟨ad.2.1, hfQ, by omega⟩, if_pos ⟨hF, by omega⟩]
            have cle := chC_le (p := p) W hr (show t + 2 ^ Q < 256 from ad.1)
            have mle : dn d 3 * chR d p L Q ≤ 9 * 8 := Nat.mul_le_mul b3 (Nat.le_trans hR lenL)
            have fin : ∀ (s1 : Int32), s1 = nI (chC d p r (t + 2 ^ Q)) → f_X0_extend_J155 K (f_X0_extend_L47 x1 x2 x3 x4 x5 K m) x1 x2 x3 x4 x5 (nI Q) s1 (nI (mLen d p Q) + s 11 6 10 * x7) s J := by
              intro s1 es1 x9 e9'
              have q9 : x9 = nI (mLen d p Q + dn d 3 * chR d p L Q + chC d p r (t + 2 ^ Q)) := by rw [e9', es1, hs.2.1 10 (by decide), P10, e7, nmul, nI_add, nI_add]
              rw [c5, ew, eb]
              refine ⟨v5, v5, k_note (t + 2 ^ Q) Q (chW d p r t L) (chB d p r t L + mLen d p Q + dn d 3 * chR d p L Q + chC d p r (t + 2 ^ Q)) ?_ rfl rfl ?_ h8 P hs (add_lt h8 ht hQ hB0) hQ (by omega) (by omega) (fun t' l h1 h2 => cB_le W hp hr h1 h2) (by show _ - _ < _; omega) (by omega) (fun s' S' j ej => ih s' j (kcT_congr S' (fun t' l h1 h2 => ?_)) (by rw [ej, nI_1]))⟩
              · rw [e1, b_or t (by omega) Q (by omega), if_neg hB]
              · rw [q9, nI_add]
                congr 1
                omega
              · have a1 := stepW t' l h1 h2
                have a2 := stepB t' l h1 h2
                by_cases c : t' = t + 2 ^ Q ∧ l = Q
                · rw [if_pos ⟨hB0, c.1, c.2⟩, c.1, c.2, gW] at a1
                  rw [if_pos ⟨hB0, c.1, c.2⟩, c.1, c.2, gB] at a2
                  rw [if_pos c, if_pos c, c.1, c.2]
                  exact ⟨a1, a2⟩
                · rw [if_neg (fun q => c ⟨q.2.1, q.2.2⟩)] at a1 a2
                  rw [if_neg c, if_neg c]
                  exact ⟨a1, a2.trans (Nat.max_eq_left (Nat.zero_le _))⟩
            refine q_eq (mLen d p Q) (mFree d r - sBit d p t) (by omega) (by omega) rfl q2 (fun q => ?_) (fun q => ?_)
            · refine fin _ ?_
              rw [hs.2.1 11 (by decide), P11, e3, nmul]
              unfold chC
              rw [sadd, if_pos (by omega), ad.2.2, Nat.add_assoc]
            · refine fin 0 ?_
              unfold chC
              rw [sadd, if_neg (by omega)]
              rfl
        · rw [if_neg hF] at e7
          exact q_t e7 (skip (fun _ => by rw [eg, if_neg hF, ite_self]))
theorem k_extend {x : Int32} {Q : MI → MJ → Prop} (W : WF d) (P : kcP d p r I) (hp : p < 4) (hr : r < 6) (t : Nat) (h0 : 0 < t) (ht : t < 2 ^ mMany d p) (e : x = nI t) (s : MI) (hs : kcN d p r (t * 64) I s) (h : ∀ s', kcN d p r ((t + 1) * 64) I s' → Q s' J) : f_X0_extend x s J Q := by
  have w := W.2.2.2 p hp
  have h8 := w.1
  have p8 := pw_8 _ h8
  obtain ⟨P7, P8, P9, P10, P11, PL, PE⟩ := id P
  refine k_lettersOf (d := d) (p := p) t e h8 ht (by rw [hs.2.1 7 (by decide)]; exact P7) (fun k hk => by rw [hs.1 11 9 (by decide)]; exact PL k hk) (fun x2 e2 => k_bits t e (by omega) (fun x3 e3 => ⟨mMany d p + 1, ?_⟩))
  rw [hs.2.1 8 (by decide), P8] at e2
  rw [hs.2.1 9 (by decide), P9, nI_add, nlit 1, nI_add] at e3
  refine up_inv (fun m (s : MI) j => f_X0_extend_L26 x x2 x3 Q m j s J) (fun L s => kcN d p r (t * 64 + L * 8) I s) (mMany d p) (fun m s hs => ?_) (fun m s L hL hs ih => ?_) s (by rw [Nat.zero_mul, Nat.add_zero]; exact hs)
  · show f_X0_extend_B26 _ _ _ _ _ _ s J
    refine q_t (by rw [hs.2.1 7 (by decide), P7]; exact Int32.le_refl _) (h s (kcT_congr hs (fun t' l h1 h2 => ?_)))
    have z := cW_next (d := d) (p := p) (r := r) (P := mMany d p) (s := t) (t := t') h8 h2
    exact ⟨z.1.symm, z.2.symm⟩
  · show f_X0_extend_B26 _ _ _ _ _ _ s J
    refine q_f (by rw [hs.2.1 7 (by decide), P7]; exact nge hL (by omega)) (fun x5 e5 => ⟨mMany d p + 1, ?_⟩)
    exact k_ext47 W P hp hr t L h0 ht hL e e2 e3 rfl (by rw [e5, e, nlit 8, nmul, nI_add, Nat.mul_comm]) s hs (fun s' S' j ej => ih s' j S' (by rw [ej, nI_1]))
end CE
