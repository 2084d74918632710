/-! CHAINS: what the class keeps while it counts -/
def kcP (d : Nat → Int32) (p r : Nat) (I : MI) : Prop := I 11 6 7 = nI (mMany d p) ∧ I 11 6 8 = nI (mFree d r) ∧ I 11 6 9 = nI (mWds d r) ∧ I 11 6 10 = nI (dn d 3) ∧ I 11 6 11 = nI (dn d 4) ∧ (∀ k, k < mMany d p → I 11 9 k = nI (mLen d p k)) ∧ ∀ a b, a < mMany d p → b < mMany d p → I 11 10 (8 * a + b) = if chF d p a b then nI (chR d p a b) else -1
def kcT (d : Nat → Int32) (p r : Nat) (I : MI) (Wt Bt : Nat → Nat → Nat) (s : MI) : Prop :=
  (∀ b' r', ¬ (b' = 11 ∧ (r' = 6 ∨ r' = 7 ∨ r' = 8)) → s b' r' = I b' r') ∧ (∀ i, 3 ≤ i → s 11 6 i = I 11 6 i) ∧
  (∀ t l, t < 2 ^ mMany d p → l < mMany d p → s 11 7 (8 * t + l) = nI (Wt t l) ∧ s 11 8 (8 * t + l) = nI (Bt t l)) ∧
  ∀ w, w ≤ 2 → s 11 6 w = nI (fld w (fun t => fld w (fun l => chG d p r w (Wt t l) (Bt t l) t) (mMany d p)) (2 ^ mMany d p))
theorem kcT_congr {d : Nat → Int32} {p r : Nat} {I s : MI} {Wt Bt Wt' Bt' : Nat → Nat → Nat} (h : kcT d p r I Wt Bt s) (e : ∀ t l, t < 2 ^ mMany d p → l < mMany d p → Wt' t l = Wt t l ∧ Bt' t l = Bt t l) : kcT d p r I Wt' Bt' s := by
  refine ⟨h.1, h.2.1, fun t l ht hl => ?_, fun w hw => ?_⟩
  · rw [(e t l ht hl).1, (e t l ht hl).2]; exact h.2.2.1 t l ht hl
  · rw [h.2.2.2 w hw]
    refine congrArg nI (fld_congr _ (fun t ht => fld_congr _ (fun l hl => ?_)))
    rw [(e t l ht hl).1, (e t l ht hl).2]
theorem b_and : ∀ m, m < 256 → ∀ k, k < 8 → (nI m &&& ((1 : Int32) <<< (nI k &&& 31))) = nI (if m.testBit k then 2 ^ k else 0) := by decide +kernel
theorem b_or : ∀ m, m < 256 → ∀ k, k < 8 → (nI m ||| ((1 : Int32) <<< (nI k &&& 31))) = nI (if m.testBit k then m else m + 2 ^ k) := by decide +kernel
def bcF (x0 : Int32) : Int32 :=
  let x1 := (x0 - (((x0.toUInt32 >>> ((1 : Int32).toUInt32 &&& Int32.toUInt32 31)).toInt32) &&& (1431655765 : Int32)))
  let x2 := ((x1 &&& (858993459 : Int32)) + (((x1.toUInt32 >>> ((2 : Int32).toUInt32 &&& Int32.toUInt32 31)).toInt32) &&& (858993459 : Int32)))
  let x3 := ((x2 + ((x2.toUInt32 >>> ((4 : Int32).toUInt32 &&& Int32.toUInt32 31)).toInt32)) &&& (252645135 : Int32))
  let x4 := (x3 + ((x3.toUInt32 >>> ((8 : Int32).toUInt32 &&& Int32.toUInt32 31)).toInt32))
  let x5 := (x4 + ((x4.toUInt32 >>> ((16 : Int32).toUInt32 &&& Int32.toUInt32 31)).toInt32))
  x5 &&& (63 : Int32)
theorem bcF_pop : ∀ m, m < 256 → bcF (nI m) = nI (pop m) := by decide +kernel
theorem sumN_pad {f : Nat → Nat} {n : Nat} : ∀ m, n ≤ m → (∀ k, n ≤ k → k < m → f k = 0) → sumN f m = sumN f n
  | 0, h, _ => by rw [show n = 0 by omega]
  | m + 1, h, z => by
    by_cases q : n = m + 1
    · rw [q]
    · show sumN f m + f m = sumN f n
      rw [sumN_pad m (by omega) (fun k h1 h2 => z k h1 (by omega)), z m (by omega) (by omega), Nat.add_zero]
theorem mx_if {a b : Nat} (ha : a < 2 ^ 31) (hb : b < 2 ^ 31) : (if nI a < nI b then nI b else nI a) = nI (max a b) := by
  by_cases q : a < b
  · rw [if_pos ((nI_ltI ha hb).mpr q), Nat.max_eq_right (by omega)]
  · rw [if_neg (fun z => q ((nI_ltI ha hb).mp z)), Nat.max_eq_left (by omega)]
section CN
variable {I : MI} {J : MJ} {d : Nat → Int32} {p r : Nat}
theorem k_bits {x : Int32} {Q : Int32 → MI → MJ → Prop} (m : Nat) (e : x = nI m) (hm : m < 256) (h : Q (nI (pop m)) I J) : f_J6_bitCount_0f7a4 x I J Q := by
  intro x1 e1 x2 e2 x3 e3 x4 e4 x5 e5
  have z : x5 &&& (63 : Int32) = bcF x := by rw [e5, e4, e3, e2, e1]; rfl
  rw [z, e, bcF_pop m hm]
  exact h
theorem k_lettersOf {x : Int32} {Q : Int32 → MI → MJ → Prop} (t : Nat) (e : x = nI t) (h8 : mMany d p ≤ 8) (ht : t < 2 ^ mMany d p) (e7 : I 11 6 7 = nI (mMany d p)) (e9 : ∀ k, k < mMany d p → I 11 9 k = nI (mLen d p k)) (h : Q (nI (sBit d p t)) I J) : f_X0_lettersOf x I J Q := by
  have p8 := pw_8 _ h8
  have hs : sumN (fun k => if t.testBit k then mLen d p k else 0) (mMany d p) = sBit d p t := (sumN_pad (f := fun k => if t.testBit k then mLen d p k else 0) 8 h8 (fun k h1 _ => if_neg (fun q => absurd (bit_lt ht q) (by omega)))).symm
  rw [← hs] at h
  refine ⟨mMany d p + 1, up_sum (fun m a i => f_X0_lettersOf_L4 x _ m a i I J) (fun v => Q v I J) (mMany d p) (fun k => if t.testBit k then mLen d p k else 0) (fun m acc h => ?_) (fun m acc i hi h => ?_) h⟩
  · show f_X0_lettersOf_B4 _ _ _ _ _ I J
    exact q_t (by rw [e7]; exact Int32.le_refl _) h
  · show f_X0_lettersOf_B4 _ _ _ _ _ I J
    have eb : (x &&& ((1 : Int32) <<< (nI i &&& 31))) = nI (if t.testBit i then 2 ^ i else 0) := by rw [e]; exact b_and t (by omega) i (by omega)
    have pi := Nat.two_pow_pos i
    have li : 2 ^ i < 2 ^ 8 := Nat.pow_lt_pow_right (by decide) (by omega)
    refine q_f (by rw [e7]; exact nge hi (by omega)) ?_
    rw [eb]
    by_cases z : t.testBit i = true
    · rw [if_pos z] at h ⊢
      refine q_eq (2 ^ i) 0 (by omega) (by decide) rfl rfl (fun q => absurd q (by omega)) (fun _ => ⟨vin i 8 (by omega) (by decide) rfl, fun a ea j ej => h a j ?_ (by rw [ej, nI_1])⟩)
      rw [ea, nI_clamp (by omega), e9 i hi, nI_add]
    · rw [if_neg z] at h ⊢
      exact q_t rfl (fun j ej => h _ j (by rw [Nat.add_zero]) (by rw [ej, nI_1]))
/-- what one note adds to the fields -/
def exW (d : Nat → Int32) (p r w t c v : Nat) : Nat := if w = 2 then (if sBit d p t = mFree d r then c else 0) else if w = 0 then pop t else v
theorem chG_put {w t c v Wv Bv : Nat} (hc : 0 < c) : chG d p r w (Wv + c) (max Bv v) t = cmb w (chG d p r w Wv Bv t) (exW d p r w t c v) := by
  unfold chG exW cmb
  by_cases a : w = 2
  · rw [if_pos a, if_pos a, if_pos a, if_pos a]
    split <;> rfl
  · rw [if_neg a, if_neg a, if_neg a, if_neg a]
    by_cases b : w = 0
    · rw [if_pos b, if_pos b, if_pos b, if_neg (by omega)]
      split
      · exact (Nat.max_eq_right (Nat.zero_le _)).symm
      · exact (Nat.max_self _).symm
    · rw [if_neg b, if_neg b, if_neg b]
theorem fld2_put {w t0 l0 c v n m : Nat} {Wt Bt : Nat → Nat → Nat} (hc : 0 < c) (ht : t0 < m) (hl : l0 < n) :
    fld w (fun t => fld w (fun l => chG d p r w (if t = t0 ∧ l = l0 then Wt t l + c else Wt t l) (if t = t0 ∧ l = l0 then max (Bt t l) v else Bt t l) t) n) m = cmb w (fld w (fun t => fld w (fun l => chG d p r w (Wt t l) (Bt t l) t) n) m) (exW d p r w t0 c v) := by
  refine fld_upd (k0 := t0) ?_ m ht (fun t _ hn => fld_congr _ (fun l _ => ?_))
  · refine fld_upd (k0 := l0) ?_ n hl (fun l _ hn => ?_)
    · show chG d p r w (if t0 = t0 ∧ l0 = l0 then _ else _) (if t0 = t0 ∧ l0 = l0 then _ else _) t0 = _
      rw [if_pos ⟨rfl, rfl⟩, if_pos ⟨rfl, rfl⟩]
      exact chG_put hc
    · show chG d p r w (if t0 = t0 ∧ l = l0 then _ else _) (if t0 = t0 ∧ l = l0 then _ else _) t0 = _
      rw [if_neg (fun z => hn z.2), if_neg (fun z => hn z.2)]
  · rw [if_neg (fun z => hn z.1), if_neg (fun z => hn z.1)]
theorem k_note {x1 x2 x3 x4 : Int32} {Q : MI → MJ → Prop} {Wt Bt : Nat → Nat → Nat} {s : MI} (t0 l0 c v : Nat) (e1 : x1 = nI t0) (e2 : x2 = nI l0) (e3 : x3 = nI c) (e4 : x4 = nI v) (h8 : mMany d p ≤ 8) (P : kcP d p r I) (S : kcT d p r I Wt Bt s) (ht : t0 < 2 ^ mMany d p) (hl : l0 < mMany d p) (hc : 0 < c) (hv : v ≤ 1000000) (hB : ∀ t l, t < 2 ^ mMany d p → l < mMany d p → Bt t l ≤ 1000000)
    (hF : mFree d r < 2 ^ 31) (hsB : sBit d p t0 < 2 ^ 31)
    (h : ∀ s', kcT d p r I (fun t l => if t = t0 ∧ l = l0 then Wt t l + c else Wt t l) (fun t l => if t = t0 ∧ l = l0 then max (Bt t l) v else Bt t l) s' → Q s' J) : f_X0_note x1 x2 x3 x4 s J Q := by
  have p8 := pw_8 _ h8
  have P0 := P
  obtain ⟨P7, P8, -, -, -, P9, -⟩ := P
  obtain ⟨S1, S2, S3, S4⟩ := S
  intro x5 e5
  have q5 : x5 = nI (8 * t0 + l0) := by rw [e5, e1, e2, nlit 8, nmul, nI_add, Nat.mul_comm]
  have v5 : vp_in x5 2048 := vin _ _ (by omega) (by decide) q5
  rw [cln (by omega) q5]
  have hpop := pop_le t0 (by omega)
  have bw : ∀ w, w ≠ 2 → fld w (fun t => fld w (fun l => chG d p r w (Wt t l) (Bt t l) t) (mMany d p)) (2 ^ mMany d p) ≤ 1000000 := fun w hw => fld_le hw _ (fun t ht => fld_le hw _ (fun l hl => by
    have h1 := pop_le t (by omega)
    have h2 := hB t l ht hl
    unfold chG
    rw [if_neg hw]
    split
    · split <;> omega
    · exact h2))
  refine ⟨v5, v5, fun I4 e6 => ⟨v5, v5, fun I7 e7 => k_bits t0 e1 (by omega) (fun I11 e11 I12 e12 => ?_)⟩⟩
  have a8 : I4 11 8 (8 * t0 + l0) = nI (Bt t0 l0) := by rw [e6, sI_ro _ _ _ _ _ (by decide)]; exact (S3 t0 l0 ht hl).2
  rw [a8, e4, mx_if (by have := hB t0 l0 ht hl; omega) (by omega)] at e7
  have a0 := (show I7 11 6 0 = s 11 6 0 by rw [e7, sI_ro _ _ _ _ _ (by decide), e6, sI_ro _ _ _ _ _ (by decide)]).trans (S4 0 (by decide))
  rw [a0, mx_if (Nat.lt_of_le_of_lt (bw 0 (by decide)) (by decide)) (by omega)] at e11
  have a1 := (show I11 11 6 1 = s 11 6 1 by rw [e11, sI_ot _ _ _ _ (by decide), e7, sI_ro _ _ _ _ _ (by decide), e6, sI_ro _ _ _ _ _ (by decide)]).trans (S4 1 (by decide))
  rw [a1, e4, mx_if (Nat.lt_of_le_of_lt (bw 1 (by decide)) (by decide)) (by omega)] at e12
  have r9 : I12 11 9 = I 11 9 := by rw [e12, sI_ro _ _ _ _ _ (by decide), e11, sI_ro _ _ _ _ _ (by decide), e7, sI_ro _ _ _ _ _ (by decide), e6, sI_ro _ _ _ _ _ (by decide), S1 11 9 (by decide)]
  have f6 : ∀ i, i ≠ 0 → i ≠ 1 → I12 11 6 i = s 11 6 i := fun i h0 h1 => by rw [e12, sI_ot _ _ _ _ h1, e11, sI_ot _ _ _ _ h0, e7, sI_ro _ _ _ _ _ (by decide), e6, sI_ro _ _ _ _ _ (by decide)]
  have o12 : ∀ b' r', ¬ (b' = 11 ∧ (r' = 6 ∨ r' = 7 ∨ r' = 8)) → I12 b' r' = I b' r' := fun b' r' n => by
    rw [e12, e11, e7, e6]
    unfold sI
    rw [rI_ne (fun z => n ⟨z.1, Or.inl z.2⟩), rI_ne (fun z => n ⟨z.1, Or.inl z.2⟩), rI_ne (fun z => n ⟨z.1, Or.inr (Or.inr z.2)⟩), rI_ne (fun z => n ⟨z.1, Or.inr (Or.inl z.2)⟩)]
    exact S1 b' r' n
  have t7 : I12 11 7 = upd (s 11 7) (8 * t0 + l0) (s 11 7 (8 * t0 + l0) + x3) := by rw [e12, sI_ro _ _ _ _ _ (by decide), e11, sI_ro _ _ _ _ _ (by decide), e7, sI_ro _ _ _ _ _ (by decide), e6]; exact rI_same _ _ _ _
  have t8 : I12 11 8 = upd (s 11 8) (8 * t0 + l0) (nI (max (Bt t0 l0) v)) := by
    rw [e12, sI_ro _ _ _ _ _ (by decide), e11, sI_ro _ _ _ _ _ (by decide), e7]
    refine (rI_same _ _ _ _).trans ?_
    rw [e6, sI_ro _ _ _ _ _ (by decide)]
  have T12 : ∀ t l, t < 2 ^ mMany d p → l < mMany d p → I12 11 7 (8 * t + l) = nI (if t = t0 ∧ l = l0 then Wt t l + c else Wt t l) ∧ I12 11 8 (8 * t + l) = nI (if t = t0 ∧ l = l0 then max (Bt t l) v else Bt t l) := by
    intro t l h1 h2
    rw [t7, t8]
    by_cases q : t = t0 ∧ l = l0
    · obtain ⟨qa, qb⟩ := q
      subst qa qb
      rw [upd_at, upd_at, if_pos ⟨rfl, rfl⟩, if_pos ⟨rfl, rfl⟩, (S3 t l h1 h2).1, e3, nI_add]
      exact ⟨rfl, rfl⟩
    · have ne : 8 * t + l ≠ 8 * t0 + l0 := fun z => q ⟨by omega, by omega⟩
      rw [upd_ot _ _ ne, upd_ot _ _ ne, if_neg q, if_neg q]
      exact S3 t l h1 h2
  have z0 : I12 11 6 0 = nI (cmb 0 (fld 0 (fun t => fld 0 (fun l => chG d p r 0 (Wt t l) (Bt t l) t) (mMany d p)) (2 ^ mMany d p)) (exW d p r 0 t0 c v)) := by rw [e12, sI_ot _ _ _ _ (by decide), e11, sI_at]; rfl
  have z1 : I12 11 6 1 = nI (cmb 1 (fld 1 (fun t => fld 1 (fun l => chG d p r 1 (Wt t l) (Bt t l) t) (mMany d p)) (2 ^ mMany d p)) (exW d p r 1 t0 c v)) := by rw [e12, sI_at]; rfl
  have z2 : I12 11 6 2 = nI (fld 2 (fun t => fld 2 (fun l => chG d p r 2 (Wt t l) (Bt t l) t) (mMany d p)) (2 ^ mMany d p)) := by rw [f6 2 (by decide) (by decide)]; exact S4 2 (by decide)
  have fin : ∀ (s' : MI) (g : Int32), (s' = I12 ∨ s' = sI I12 11 6 2 g) → s' 11 6 2 = nI (cmb 2 (fld 2 (fun t => fld 2 (fun l => chG d p r 2 (Wt t l) (Bt t l) t) (mMany d p)) (2 ^ mMany d p)) (exW d p r 2 t0 c v)) → Q s' J := by
    intro s' g es e2'
    have o' : ∀ b' r', ¬ (b' = 11 ∧ r' = 6) → s' b' r' = I12 b' r' := fun b' r' n => by
      rcases es with es | es
      · rw [es]
      · rw [es]; unfold sI; exact rI_ne n
    have i' : ∀ i, i ≠ 2 → s' 11 6 i = I12 11 6 i := fun i n => by
      rcases es with es | es
      · rw [es]
      · rw [es]; exact sI_ot _ _ _ _ n
    refine h s' ⟨fun b' r' n => ?_, fun i hi => ?_, fun t l h1 h2 => ?_, fun w hw => ?_⟩
    · rw [o' b' r' (fun z => n ⟨z.1, Or.inl z.2⟩)]; exact o12 b' r' n
    · rw [i' i (by omega), f6 i (by omega) (by omega)]; exact S2 i hi
    · rw [o' 11 7 (by decide), o' 11 8 (by decide)]; exact T12 t l h1 h2
    · rw [fld2_put hc ht hl]
      rcases (show w = 0 ∨ w = 1 ∨ w = 2 by omega) with q | q | q
      · subst q; rw [i' 0 (by decide)]; exact z0
      · subst q; rw [i' 1 (by decide)]; exact z1
      · subst q; exact e2'
  refine k_lettersOf (d := d) (p := p) t0 e1 h8 ht (by rw [f6 7 (by decide) (by decide), S2 7 (by decide)]; exact P7) (fun k hk => by rw [r9]; exact P9 k hk) ?_
  refine q_eq (sBit d p t0) (mFree d r) hsB hF rfl (by rw [f6 8 (by decide) (by decide), S2 8 (by decide)]; exact P8) (fun q I17 e17 => fin I17 _ (Or.inr e17) ?_) (fun q => fin I12 0 (Or.inl rfl) ?_)
  · rw [e17, sI_at, z2, e3, nI_add]
    unfold cmb exW
    rw [if_pos rfl, if_pos rfl, if_pos q]
  · rw [z2]
    unfold cmb exW
    rw [if_pos rfl, if_pos rfl, if_neg q]
    rfl
end CN
