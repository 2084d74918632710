/-! A WORD GIVEN: the data and the game with one word more -/
section AG
variable {tx : Nat → Nat} {d : Nat → Int32} {p j n : Nat}
theorem aw_lo {i : Nat} (h : i < 306) : addW tx d p j n i = d i := aw_far (show i ≠ 306 + 74 * p + 1 by omega) (Or.inl (show i < 306 + 74 * p + 2 + 9 * mMany d p by omega))
theorem aw_lon {i : Nat} (h : i < 306) : dn (addW tx d p j n) i = dn d i := by unfold dn; rw [aw_lo h]
theorem WF_add (W : WF d) (hp : p < 4) (hm : mMany d p < 8) (hn : 1 ≤ n ∧ n ≤ 8) (hl : ∀ q, q < n → isL (tx (j + q)) = true) : WF (addW tx d p j n) := by
  obtain ⟨g, A, R, P⟩ := W
  refine ⟨fun i hi => ?_, ?_, fun r hr => ?_, fun q hq => ?_⟩
  · by_cases c1 : i = pA p + 1
    · rw [c1, show dn (addW tx d p j n) (pA p + 1) = mMany d p + 1 from aw_manyn (by omega), aw_many]
      exact ⟨rfl, by omega⟩
    · by_cases c2 : i < wA p (mMany d p) ∨ wA p (mMany d p) + 1 + n ≤ i
      · rw [aw_far c1 c2, aw_farn c1 c2]; exact g i hi
      · by_cases c3 : i = wA p (mMany d p)
        · unfold dn
          rw [c3, aw_len]
          exact gv n (by omega)
        · have e : i = wA p (mMany d p) + 1 + (i - (wA p (mMany d p) + 1)) := by omega
          have l := isL_t (hl (i - (wA p (mMany d p) + 1)) (by omega))
          unfold dn
          rw [e, aw_let (by omega)]
          exact gv _ (by omega)
  · rw [show mTil (addW tx d p j n) 0 = mTil d 0 from aw_lon (show 36 + 45 * 0 < 306 by decide), aw_lon (i := 0) (by decide), aw_lon (i := 1) (by decide), aw_lon (i := 2) (by decide), aw_lon (i := 3) (by decide), aw_lon (i := 4) (by decide), aw_lon (i := 5) (by decide), aw_lon (i := 6) (by decide), aw_lon (i := 7) (by decide), aw_lon (i := 8) (by decide), aw_lon (i := 9) (by decide)]
    exact A
  · obtain ⟨w1, w2, w3, w4, w5, w6, w7, w8, w9⟩ := R r hr
    have cn : ∀ k, k < 45 → dn (addW tx d p j n) (rA r + k) = dn d (rA r + k) := fun k hk => aw_lon (show 36 + 45 * r + k < 306 by omega)
    have e0 : mTil (addW tx d p j n) r = mTil d r := cn 0 (by decide)
    have e1 : mUse (addW tx d p j n) r = mUse d r := cn 1 (by decide)
    have e2 : mWds (addW tx d p j n) r = mWds d r := cn 2 (by decide)
    have e4 : mLst (addW tx d p j n) r = mLst d r := cn 4 (by decide)
    rw [e0, e1, e2, e4, aw_lo (show 36 + 45 * r + 3 < 306 by omega), aw_lon (i := 1) (by decide)]
    refine ⟨w1, w2, w3, w4, w5, w6, w7, fun t ht => ?_, w9⟩
    rw [Nat.add_assoc, cn (5 + t) (by omega), ← Nat.add_assoc]
    exact w8 t ht
  · obtain ⟨p2, p3⟩ := P q hq
    by_cases z : q = p
    · subst z
      rw [aw_manyn (by omega)]
      refine ⟨by omega, fun k hk => ?_⟩
      by_cases y : k = mMany d q
      · have el : mLen (addW tx d q j n) q k = n := by
          rw [y]
          show dn _ _ = n
          unfold dn
          rw [aw_len]
          exact nI_clamp (by omega)
        rw [el]
        refine ⟨hn, fun r hr => ?_⟩
        have l := isL_t (hl r hr)
        unfold dn
        rw [y, aw_let hr, nI_clamp (by omega)]
        omega
      · have k3 := p3 k (by omega)
        have cell : ∀ c, c < 9 → dn (addW tx d q j n) (wA q k + c) = dn d (wA q k + c) := fun c hc => aw_farn (show 306 + 74 * q + 2 + 9 * k + c ≠ 306 + 74 * q + 1 by omega) (Or.inl (show 306 + 74 * q + 2 + 9 * k + c < 306 + 74 * q + 2 + 9 * mMany d q by omega))
        have el : mLen (addW tx d q j n) q k = mLen d q k := cell 0 (by decide)
        rw [el]
        refine ⟨k3.1, fun r hr => ?_⟩
        rw [Nat.add_assoc, cell (1 + r) (by omega), ← Nat.add_assoc]
        exact k3.2 r hr
    · have cell : ∀ c, c < 74 → addW tx d p j n (pA q + c) = d (pA q + c) := fun c hc => aw_far (show 306 + 74 * q + c ≠ 306 + 74 * p + 1 by omega) (by
        show 306 + 74 * q + c < 306 + 74 * p + 2 + 9 * mMany d p ∨ 306 + 74 * p + 2 + 9 * mMany d p + 1 + n ≤ 306 + 74 * q + c
        omega)
      have celln : ∀ c, c < 74 → dn (addW tx d p j n) (pA q + c) = dn d (pA q + c) := fun c hc => by unfold dn; rw [cell c hc]
      have em : mMany (addW tx d p j n) q = mMany d q := celln 1 (by decide)
      rw [em]
      refine ⟨p2, fun k hk => ?_⟩
      have k3 := p3 k hk
      have cw : ∀ c, c < 9 → dn (addW tx d p j n) (wA q k + c) = dn d (wA q k + c) := fun c hc => by
        have := celln (2 + 9 * k + c) (by omega)
        rw [show pA q + (2 + 9 * k + c) = wA q k + c by show 306 + 74 * q + (2 + 9 * k + c) = 306 + 74 * q + 2 + 9 * k + c; omega] at this
        exact this
      have el : mLen (addW tx d p j n) q k = mLen d q k := cw 0 (by decide)
      rw [el]
      refine ⟨k3.1, fun r hr => ?_⟩
      rw [Nat.add_assoc, cw (1 + r) (by omega), ← Nat.add_assoc]
      exact k3.2 r hr
theorem LV_add (V : LV d) : LV (addW tx d p j n) := by
  unfold LV
  rw [aw_lon (i := 6) (by decide), aw_lon (i := 7) (by decide), aw_lon (i := 1) (by decide)]
  exact V
theorem RC_add {I I' : MI} {J J' : MJ} (W : WF d) (C : RC I J 0 d) (hp : p < 4) (hm : mMany d p < 8) (hn : 1 ≤ n ∧ n ≤ 8) (hI : ∀ r, r ≠ 13 → I' 0 r = I 0 r) (hI3 : ∀ q, I' 0 13 q = if q = p then nI (mMany d p + 1) else I 0 13 q) (hJ : ∀ r, r ≠ 12 → J' 0 r = J 0 r) (hJ2 : ∀ q, J' 0 12 q = if q = 8 * p + mMany d p then lN (pkN (addW tx d p j n) (wA p (mMany d p) + 1) n) else J 0 12 q) : RC I' J' 0 (addW tx d p j n) := by
  have b6 := wf_rows W
  have b4 := wf_pls W
  obtain ⟨A, G, Rw, P, L, K1, K2, K3, K4, K5, K6⟩ := C
  refine ⟨?_, fun x y hx hy => ?_, fun r hr => ?_, fun q hq => ?_, L, K1, K2, ?_, ?_, ?_, ?_⟩
  · rw [hI 1 (by decide), hI 0 (by decide), aw_lo (i := 0) (by decide), aw_lo (i := 1) (by decide), aw_lo (i := 2) (by decide), aw_lo (i := 3) (by decide), aw_lo (i := 4) (by decide), aw_lo (i := 5) (by decide), aw_lo (i := 6) (by decide), aw_lo (i := 7) (by decide)]
    exact A
  · have z := G x y hx hy
    rw [hI 4 (by decide)]
    unfold alk at z ⊢
    rw [aw_lon (show 10 + x < 306 by omega), aw_lon (show 10 + y < 306 by omega)]
    exact z
  · rw [aw_lon (i := 0) (by decide)] at hr
    obtain ⟨r1, r2, r3, r4, r5, r6⟩ := Rw r hr
    have w := W.2.2.1 r (by omega)
    have cn : ∀ k, k < 45 → addW tx d p j n (rA r + k) = d (rA r + k) := fun k hk => aw_lo (show 36 + 45 * r + k < 306 by omega)
    have cnn : ∀ k, k < 45 → dn (addW tx d p j n) (rA r + k) = dn d (rA r + k) := fun k hk => aw_lon (show 36 + 45 * r + k < 306 by omega)
    have e1 : mUse (addW tx d p j n) r = mUse d r := cnn 1 (by decide)
    have e4 : mLst (addW tx d p j n) r = mLst d r := cnn 4 (by decide)
    have eL : mLat (addW tx d p j n) r = mLat d r := by show _ - _ = _ - _; rw [e1, e4]
    rw [e1, e4, eL, hI 3 (by decide), hI 8 (by decide), hI 9 (by decide), hI 11 (by decide), hI 7 (by decide), hJ 10 (by decide)]
    refine ⟨r1.trans (cn 0 (by decide)).symm, r2.trans (cn 1 (by decide)).symm, r3.trans (cn 2 (by decide)).symm, r4.trans (cn 3 (by decide)).symm, ?_, fun t ht => ?_⟩
    · rw [r5, pk_ch (d := d) (d' := addW tx d p j n) _ (fun k hk => aw_lon (show 36 + 45 * r + 5 + mUse d r - mLst d r + k < 306 by omega))]
    · rw [r6 t ht, Nat.add_assoc, cn (5 + t) (by omega)]
  · rw [aw_lon (i := 1) (by decide)] at hq
    obtain ⟨p1, p2, p3⟩ := P q hq
    have dp := W.2.2.2 q (by omega)
    rw [hI 14 (by decide), hI3]
    by_cases z : q = p
    · subst z
      rw [if_pos rfl, aw_manyn (by omega), aw_many]
      refine ⟨rfl, p2.trans (aw_far (show 306 + 74 * q ≠ 306 + 74 * q + 1 by omega) (Or.inl (show 306 + 74 * q < 306 + 74 * q + 2 + 9 * mMany d q by omega))).symm, fun k hk => ?_⟩
      rw [hJ2]
      by_cases y : k = mMany d q
      · have el : mLen (addW tx d q j n) q k = n := by
          rw [y]
          show dn _ _ = n
          unfold dn
          rw [aw_len]
          exact nI_clamp (by omega)
        rw [el, y, if_pos rfl]
      · have cell : ∀ c, c < 9 → dn (addW tx d q j n) (wA q k + c) = dn d (wA q k + c) := fun c hc => aw_farn (show 306 + 74 * q + 2 + 9 * k + c ≠ 306 + 74 * q + 1 by omega) (Or.inl (show 306 + 74 * q + 2 + 9 * k + c < 306 + 74 * q + 2 + 9 * mMany d q by omega))
        have el : mLen (addW tx d q j n) q k = mLen d q k := cell 0 (by decide)
        have k3 := (dp.2 k (by omega)).1
        rw [el, if_neg (by omega), p3 k (by omega), pk_ch (d := d) (d' := addW tx d q j n) _ (fun r hr => by rw [Nat.add_assoc, cell (1 + r) (by omega)])]
    · have cell : ∀ c, c < 74 → addW tx d p j n (pA q + c) = d (pA q + c) := fun c hc => aw_far (show 306 + 74 * q + c ≠ 306 + 74 * p + 1 by omega) (by
        show 306 + 74 * q + c < 306 + 74 * p + 2 + 9 * mMany d p ∨ 306 + 74 * p + 2 + 9 * mMany d p + 1 + n ≤ 306 + 74 * q + c
        omega)
      have celln : ∀ c, c < 74 → dn (addW tx d p j n) (pA q + c) = dn d (pA q + c) := fun c hc => by unfold dn; rw [cell c hc]
      have em : mMany (addW tx d p j n) q = mMany d q := celln 1 (by decide)
      rw [em, if_neg z]
      refine ⟨p1.trans (cell 1 (by decide)).symm, p2.trans (cell 0 (by decide)).symm, fun k hk => ?_⟩
      have k3 := (dp.2 k hk).1
      have cw : ∀ c, c < 9 → dn (addW tx d p j n) (wA q k + c) = dn d (wA q k + c) := fun c hc => by
        have := celln (2 + 9 * k + c) (by omega)
        rw [show pA q + (2 + 9 * k + c) = wA q k + c by show 306 + 74 * q + (2 + 9 * k + c) = 306 + 74 * q + 2 + 9 * k + c; omega] at this
        exact this
      have el : mLen (addW tx d p j n) q k = mLen d q k := cw 0 (by decide)
      rw [el, hJ2, if_neg (by omega), p3 k hk, pk_ch (d := d) (d' := addW tx d p j n) _ (fun r hr => by rw [Nat.add_assoc, cw (1 + r) (by omega)])]
  · rw [hI 2 (by decide)]; exact K3
  · rw [hI 5 (by decide)]; exact K4
  · rw [aw_lon (i := 8) (by decide)]; exact K5
  · rw [aw_lon (i := 8) (by decide), aw_lon (i := 9) (by decide)]
    intro h
    have z := K6 h
    refine ⟨z.1, fun i hi => ?_⟩
    rw [aw_farn (show 602 + i ≠ 306 + 74 * p + 1 by omega) (Or.inr (show 306 + 74 * p + 2 + 9 * mMany d p + 1 + n ≤ 602 + i by omega))]
    exact z.2 i hi
end AG
