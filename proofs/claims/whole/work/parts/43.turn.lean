/-! THE END OF A TURN, on both sides -/
theorem upd_at (f : Nat → Int32) (i : Nat) (v : Int32) : upd f i v i = v := if_pos rfl
theorem upd_ot (f : Nat → Int32) {i j : Nat} (v : Int32) (h : j ≠ i) : upd f i v j = f j := if_neg h
theorem rI_rI (I : MI) (b r : Nat) (f g : Nat → Int32) : rI (rI I b r f) b r g = rI I b r g := by
  funext b' r'
  unfold rI
  by_cases h : b' = b ∧ r' = r
  · rw [if_pos h, if_pos h]
  · rw [if_neg h, if_neg h, if_neg h]
/-- the cells that the end of a turn leaves as they are -/
def calm (i : Nat) : Prop := i ≠ 5 ∧ i ≠ 6 ∧ i ≠ 7 ∧ ∀ p, p < 4 → i ≠ 306 + 74 * p
theorem calm_lo {i : Nat} (h : i < 36) (h5 : i < 5 ∨ 7 < i) : calm i := ⟨by omega, by omega, by omega, fun p _ => by omega⟩
theorem calm_hi {i : Nat} : calm (602 + i) := ⟨by omega, by omega, by omega, fun p _ => by omega⟩
theorem calm_row {r k : Nat} (hr : r < 6) (hk : k < 45) : calm (rA r + k) := by
  show calm (36 + 45 * r + k)
  exact ⟨by omega, by omega, by omega, fun p _ => by omega⟩
theorem calm_pl {p k : Nat} (hp : p < 4) (hk : k < 74) (h0 : k ≠ 0) : calm (pA p + k) := by
  show calm (306 + 74 * p + k)
  exact ⟨by omega, by omega, by omega, fun q _ => by omega⟩
theorem calm_w {p k j : Nat} (hp : p < 4) (hk : k < 8) (hj : j < 9) : calm (wA p k + j) := by
  have e : wA p k + j = pA p + (2 + 9 * k + j) := by show 306 + 74 * p + 2 + 9 * k + j = 306 + 74 * p + (2 + 9 * k + j); omega
  rw [e]
  exact calm_pl hp (by omega) (by omega)
def rest (d d' : Nat → Int32) : Prop := ∀ i, calm i → d' i = d i
theorem rest.rfl {d : Nat → Int32} : rest d d := fun _ _ => Eq.refl _
theorem rest.trans {d d' d'' : Nat → Int32} (h : rest d d') (g : rest d' d'') : rest d d'' := fun i c => (g i c).trans (h i c)
theorem rest_n {d d' : Nat → Int32} (h : rest d d') {i : Nat} (c : calm i) : dn d' i = dn d i := by unfold dn; rw [h i c]
theorem WF_ch {d d' : Nat → Int32} (W : WF d) (h : rest d d') (t o q : Nat) (h5 : d' 5 = nI t) (ht : t < dn d 1) (h6 : d' 6 = nI o) (ho : o ≤ 1) (h7 : d' 7 = nI q) (hq : q ≤ dn d 1) : WF d' := by
  have z : ∀ {i : Nat}, calm i → dn d' i = dn d i := fun c => rest_n h c
  have h4 := W.2.1.2.1
  have z5 : dn d' 5 = t := by unfold dn; rw [h5]; exact nI_clamp (by omega)
  have z6 : dn d' 6 = o := by unfold dn; rw [h6]; exact nI_clamp (by omega)
  have z7 : dn d' 7 = q := by unfold dn; rw [h7]; exact nI_clamp (by omega)
  have z1 : dn d' 1 = dn d 1 := z (calm_lo (by decide) (by decide))
  refine ⟨fun i hi => ?_, ?_, fun r hr => ?_, fun p hp => ?_⟩
  · by_cases c5 : i = 5
    · subst c5; rw [z5]; exact ⟨h5, by omega⟩
    · by_cases c6 : i = 6
      · subst c6; rw [z6]; exact ⟨h6, by omega⟩
      · by_cases c7 : i = 7
        · subst c7; rw [z7]; exact ⟨h7, by omega⟩
        · have c : calm i := ⟨c5, c6, c7, hi.2.2⟩
          rw [h i c, z c]; exact W.1 i hi
  · rw [show mTil d' 0 = mTil d 0 from z (calm_row (r := 0) (k := 0) (by decide) (by decide)), z5, z6, z7, z1, z (calm_lo (i := 0) (by decide) (by decide)), z (calm_lo (i := 2) (by decide) (by decide)), z (calm_lo (i := 3) (by decide) (by decide)), z (calm_lo (i := 4) (by decide) (by decide)), z (calm_lo (i := 8) (by decide) (by decide)), z (calm_lo (i := 9) (by decide) (by decide))]
    obtain ⟨a0, a1, a2, a3, a4, _, _, _, a8, a9⟩ := W.2.1
    exact ⟨a0, a1, a2, a3, a4, ht, ho, hq, a8, a9⟩
  · have e0 : mTil d' r = mTil d r := z (calm_row hr (k := 0) (by decide))
    have e1 : mUse d' r = mUse d r := z (calm_row hr (k := 1) (by decide))
    have e2 : mWds d' r = mWds d r := z (calm_row hr (k := 2) (by decide))
    have e4 : mLst d' r = mLst d r := z (calm_row hr (k := 4) (by decide))
    obtain ⟨a1, a2, a3, a4, a5, a6, a7, a8, a9⟩ := W.2.2.1 r hr
    refine ⟨by rw [e0]; exact a1, by rw [e1, e0]; exact a2, by rw [e2, e1]; exact a3, by rw [e4]; exact a4, by rw [e4, e1]; exact a5, by rw [e2, e4]; exact a6, by rw [e2, e1, e4]; exact a7, fun t ht => ?_, by rw [h _ (calm_row hr (k := 3) (by decide)), z1]; exact a9⟩
    rw [e1] at ht
    rw [Nat.add_assoc, z (calm_row hr (k := 5 + t) (by omega)), ← Nat.add_assoc]
    exact a8 t ht
  · have em : mMany d' p = mMany d p := z (calm_pl hp (k := 1) (by decide) (by decide))
    have w := W.2.2.2 p hp
    refine ⟨by rw [em]; exact w.1, fun k hk => ?_⟩
    rw [em] at hk
    have h8 : k < 8 := Nat.lt_of_lt_of_le hk w.1
    have el : mLen d' p k = mLen d p k := z (calm_w hp h8 (j := 0) (by decide))
    have w2 := w.2 k hk
    refine ⟨by rw [el]; exact w2.1, fun j hj => ?_⟩
    rw [el] at hj
    rw [Nat.add_assoc, z (calm_w hp h8 (j := 1 + j) (by omega)), ← Nat.add_assoc]
    exact w2.2 j hj
theorem pk_ch {d d' : Nat → Int32} {a : Nat} : ∀ n, (∀ j, j < n → dn d' (a + j) = dn d (a + j)) → pkN d' a n = pkN d a n
  | 0, _ => rfl
  | n + 1, h => by rw [pkN_s, pkN_s, pk_ch n (fun j hj => h j (by omega)), h n (by omega)]
theorem RC_ch {I I' : MI} {J : MJ} {b : Nat} {d d' : Nat → Int32} (W : WF d) (C : RC I J b d) (h : rest d d') (hI : ∀ r, r ≠ 0 → r ≠ 14 → I' b r = I b r) (h5 : I' b 0 9 = d' 5) (h6 : I' b 0 11 = d' 6) (h7 : I' b 0 10 = d' 7) (hp : ∀ p, p < dn d 1 → I' b 14 p = d' (pA p)) : RC I' J b d' := by
  have z : ∀ {i : Nat}, calm i → dn d' i = dn d i := fun c => rest_n h c
  have l : ∀ {i : Nat}, i < 36 → (i < 5 ∨ 7 < i) → d' i = d i := fun a c => h _ (calm_lo a c)
  have hr6 := wf_rows W
  have hp4 := wf_pls W
  have i1 := hI 1 (by decide) (by decide)
  refine ⟨⟨?_, ?_, ?_, ?_, ?_, h5, h6, h7⟩, fun x y hx hy => ?_, fun r hr => ?_, fun p hq => ?_, ?_⟩
  · rw [i1, l (i := 0) (by decide) (by decide)]; exact C.1.1
  · rw [i1, l (i := 1) (by decide) (by decide)]; exact C.1.2.1
  · rw [i1, l (i := 2) (by decide) (by decide)]; exact C.1.2.2.1
  · rw [i1, l (i := 3) (by decide) (by decide)]; exact C.1.2.2.2.1
  · rw [i1, l (i := 4) (by decide) (by decide)]; exact C.1.2.2.2.2.1
  · rw [hI 4 (by decide) (by decide), show alk d' x y = alk d x y from by unfold alk; rw [z (calm_lo (i := 10 + x) (by omega) (by omega)), z (calm_lo (i := 10 + y) (by omega) (by omega))]]
    exact C.2.1 x y hx hy
  · rw [z (calm_lo (i := 0) (by decide) (by decide))] at hr
    have r6 : r < 6 := by omega
    have c := C.2.2.1 r hr
    have w := W.2.2.1 r r6
    have e1 : mUse d' r = mUse d r := z (calm_row r6 (k := 1) (by decide))
    have e4 : mLst d' r = mLst d r := z (calm_row r6 (k := 4) (by decide))
    have el : mLat d' r = mLat d r := by show rA r + 5 + mUse d' r - mLst d' r = _; rw [e1, e4]
    refine ⟨?_, ?_, ?_, ?_, ?_, fun t ht => ?_⟩
    · rw [hI 3 (by decide) (by decide)]; exact c.1.trans (h _ (calm_row r6 (k := 0) (by decide))).symm
    · rw [hI 8 (by decide) (by decide)]; exact c.2.1.trans (h _ (calm_row r6 (k := 1) (by decide))).symm
    · rw [hI 9 (by decide) (by decide)]; exact c.2.2.1.trans (h _ (calm_row r6 (k := 2) (by decide))).symm
    · rw [hI 11 (by decide) (by decide)]; exact c.2.2.2.1.trans (h _ (calm_row r6 (k := 3) (by decide))).symm
    · rw [el, e4, pk_ch (d := d) _ (fun j hj => ?_)]
      · exact c.2.2.2.2.1
      · have e : mLat d r + j = rA r + (5 + mUse d r - mLst d r + j) := by
          show rA r + 5 + mUse d r - mLst d r + j = _
          omega
        rw [e]
        exact z (calm_row r6 (by omega))
    · rw [e1] at ht
      rw [hI 7 (by decide) (by decide), c.2.2.2.2.2 t ht, Nat.add_assoc]
      exact (h _ (calm_row r6 (k := 5 + t) (by omega))).symm
  · rw [z (calm_lo (i := 1) (by decide) (by decide))] at hq
    have p4 : p < 4 := by omega
    have c := C.2.2.2.1 p hq
    have w := W.2.2.2 p p4
    refine ⟨?_, hp p hq, fun k hk => ?_⟩
    · rw [hI 13 (by decide) (by decide)]; exact c.1.trans (h _ (calm_pl p4 (k := 1) (by decide) (by decide))).symm
    · rw [show mMany d' p = mMany d p from z (calm_pl p4 (k := 1) (by decide) (by decide))] at hk
      have h8 : k < 8 := Nat.lt_of_lt_of_le hk w.1
      have w2 := (w.2 k hk).1
      rw [show mLen d' p k = mLen d p k from z (calm_w p4 h8 (j := 0) (by decide)), pk_ch (d := d) _ (fun j hj => ?_)]
      · exact c.2.2 k hk
      · rw [Nat.add_assoc]
        exact z (calm_w p4 h8 (j := 1 + j) (by omega))
  · obtain ⟨L, l1, l2, l3, l4, l5, l6⟩ := C.2.2.2.2
    have z8 : dn d' 8 = dn d 8 := z (calm_lo (by decide) (by decide))
    have z9 : dn d' 9 = dn d 9 := z (calm_lo (by decide) (by decide))
    refine ⟨L, l1, l2, by rw [hI 2 (by decide) (by decide)]; exact l3, by rw [hI 5 (by decide) (by decide)]; exact l4, by rw [z8]; exact l5, ?_⟩
    rw [z8, z9]
    exact fun q => ⟨(l6 q).1, fun i hi => by rw [z calm_hi]; exact (l6 q).2 i hi⟩
/-- the turn goes on -/
def dNext (d : Nat → Int32) : Nat → Int32 := upd d 5 (nI (if dn d 5 + 1 < dn d 1 then dn d 5 + 1 else 0))
/-- half the letters of a row that is not full, to who owns it -/
def pay1 (d : Nat → Int32) (r : Nat) : Nat → Int32 := if d (rA r + 3) = -1 then d else if mFree d r = 0 then d else upd d (pA (dn d (rA r + 3))) (d (pA (dn d (rA r + 3))) + d (rA r + 1) / 2)
def payN (d : Nat → Int32) : Nat → (Nat → Int32)
  | 0 => d
  | r + 1 => pay1 (payN d r) r
def dEnd (d : Nat → Int32) : Nat → Int32 := payN (upd d 6 1) (dn d 0)
theorem tn_next : ∀ p, p < 5 → ∀ t, t < p → ((nI t + 1) - (nI t + 1) / nI p * nI p) = nI (if t + 1 < p then t + 1 else 0) := by decide +kernel
theorem own_lt {d : Nat → Int32} (W : WF d) {r : Nat} (hr : r < 6) (h : ¬ d (rA r + 3) = -1) : d (rA r + 3) = nI (dn d (rA r + 3)) ∧ dn d (rA r + 3) < dn d 1 := by
  have h4 := wf_pls W
  rcases (W.2.2.1 r hr).2.2.2.2.2.2.2.2 with q | ⟨p, q, e⟩
  · exact absurd q h
  · have : dn d (rA r + 3) = p := by unfold dn; rw [e]; exact nI_clamp (by omega)
    rw [this]
    exact ⟨e, q⟩
theorem pay1_rest {d : Nat → Int32} (W : WF d) {r : Nat} (hr : r < 6) : ∀ i, (∀ p, p < 4 → i ≠ pA p) → pay1 d r i = d i := by
  intro i hi
  have h4 := wf_pls W
  unfold pay1
  split
  · rfl
  · next q =>
    split
    · rfl
    · exact upd_ot _ _ (hi _ (by have := (own_lt W hr q).2; omega))
theorem WF_pt {d d' : Nat → Int32} (W : WF d) (h : ∀ i, (∀ p, p < 4 → i ≠ pA p) → d' i = d i) : WF d' :=
  WF_ch W (fun i c => h i c.2.2.2) (dn d 5) (dn d 6) (dn d 7) ((h 5 (fun p _ => by show 5 ≠ 306 + 74 * p; omega)).trans (wf_c W (okc_lo (by decide)))) (wf_tp W) ((h 6 (fun p _ => by show 6 ≠ 306 + 74 * p; omega)).trans (wf_c W (okc_lo (by decide)))) W.2.1.2.2.2.2.2.2.1 ((h 7 (fun p _ => by show 7 ≠ 306 + 74 * p; omega)).trans (wf_c W (okc_lo (by decide)))) W.2.1.2.2.2.2.2.2.2.1
theorem payN_ok {d : Nat → Int32} (W : WF d) : ∀ r, r ≤ 6 → WF (payN d r) ∧ ∀ i, (∀ p, p < 4 → i ≠ pA p) → payN d r i = d i
  | 0, _ => ⟨W, fun _ _ => rfl⟩
  | r + 1, h => by
    have ih := payN_ok W r (by omega)
    have g := pay1_rest ih.1 (r := r) (by omega)
    exact ⟨WF_pt ih.1 g, fun i hi => (g i hi).trans (ih.2 i hi)⟩
theorem WF_over {d : Nat → Int32} (W : WF d) : WF (upd d 6 1) :=
  WF_ch W (fun i c => upd_ot _ _ c.2.1) (dn d 5) 1 (dn d 7) ((upd_ot _ _ (by decide)).trans (wf_c W (okc_lo (by decide)))) (wf_tp W) (upd_at _ _ _) (by decide) ((upd_ot _ _ (by decide)).trans (wf_c W (okc_lo (by decide)))) W.2.1.2.2.2.2.2.2.2.1
theorem WF_end {d : Nat → Int32} (W : WF d) : WF (dEnd d) := (payN_ok (WF_over W) _ (wf_rows W)).1
theorem WF_next {d : Nat → Int32} (W : WF d) : WF (dNext d) := by
  have h1 := wf_tp W
  exact WF_ch W (fun i c => upd_ot _ _ c.1) _ (dn d 6) (dn d 7) (upd_at _ _ _) (by split <;> omega) ((upd_ot _ _ (by decide)).trans (wf_c W (okc_lo (by decide)))) W.2.1.2.2.2.2.2.2.1 ((upd_ot _ _ (by decide)).trans (wf_c W (okc_lo (by decide)))) W.2.1.2.2.2.2.2.2.2.1
