/-! READING FROM THE START: the model -/
def mrF (I I' : MI) : Prop := (∀ b, b ≠ 12 → I' b = I b) ∧ (∀ r, r ≠ 0 → r ≠ 3 → I' 12 r = I 12 r) ∧ ∀ k, (k ≤ 1 ∨ (7 ≤ k ∧ k ≤ 12)) → I' 12 0 k = I 12 0 k
section MRD
variable {tx : Nat → Nat} {n : Nat}
theorem m_good0 {I : MI} {J : MJ} {x2 : Int32} {Q : Int32 → MI → MJ → Prop} (h : I 12 0 0 = 0) (hQ : Q 0 I J) : f_X8_fails 0 x2 I J Q := q_t rfl (q_t h hQ)
theorem m_bad1 {I : MI} {J : MJ} {x1 x2 : Int32} {Q : Int32 → MI → MJ → Prop} (h1 : ¬ x1 = 0) (h : I 12 0 0 = 0) (h2 : ¬ x2 = 0) (hQ : Q 1 (sI I 12 0 0 x2) J) : f_X8_fails x1 x2 I J Q := by
  refine q_f h1 (q_t h (fun I6 e6 => ?_))
  rw [e6]
  exact q_f (by rw [sI_at]; exact h2) hQ
theorem m_read {I : MI} {J : MJ} (X : SD) {x1 : Int32} {Q : Int32 → MI → MJ → Prop} (h0 : I 12 0 0 = 0) (hn : n ≤ 600) (e1 : x1 = nI n) (hX : I 12 3 = X) (hb : ∀ k, k < n → I 12 1 k = nI (tx k) ∧ tx k < 256)
    (hQ : ∀ st, spLoad tx n (d0 X) = .ok st → ∀ I', mrF I I' → I' 12 0 2 = 0 → I' 12 0 5 = 0 → I' 12 0 6 = -1 → I' 12 3 = st.2.1 → f_X8_load_J110 Q I' J)
    (hE : ∀ c o, spLoad tx n (d0 X) = .error (c, o) → ∀ I', mrF I I' → I' 12 0 2 = 0 → I' 12 0 5 = c → ¬ c = 0 → I' 12 0 6 = nI o → f_X8_load_J110 Q I' J) : f_X8_load_J23 Q x1 0 I J := by
  refine m_good0 h0 (q_t rfl (fun Ia ea Ib eb Ic ec Id ed Ie ee If ef Ig eg Ih eh Ii ei => m_layGame ?_))
  have o12 : ∀ b r, ¬ (b = 12 ∧ r = 0) → Ii b r = I b r := fun b r h => by
    rw [ei, eh, eg, ef, ee, ed, ec, eb, ea]
    unfold sI
    rw [rI_ne h, rI_ne h, rI_ne h, rI_ne h, rI_ne h, rI_ne h, rI_ne h, rI_ne h, rI_ne h]
  have lo : ∀ k, k ≤ 13 → Ii 12 0 k = Ie 12 0 k := fun k hk => by
    rw [ei, sI_ot _ _ _ _ (by omega), eh, sI_ot _ _ _ _ (by omega), eg, sI_ot _ _ _ _ (by omega), ef, sI_ot _ _ _ _ (by omega)]
  have g2 : Ii 12 0 2 = 0 := by rw [lo 2 (by decide), ee, sI_ot _ _ _ _ (by decide), ed, sI_ot _ _ _ _ (by decide), ec, sI_ot _ _ _ _ (by decide), eb, sI_ot _ _ _ _ (by decide), ea, sI_at]
  have g3 : Ii 12 0 3 = nI n := by rw [lo 3 (by decide), ee, sI_ot _ _ _ _ (by decide), ed, sI_ot _ _ _ _ (by decide), ec, sI_ot _ _ _ _ (by decide), eb, sI_at]; exact e1
  have g4 : Ii 12 0 4 = 0 := by rw [lo 4 (by decide), ee, sI_ot _ _ _ _ (by decide), ed, sI_ot _ _ _ _ (by decide), ec, sI_at]
  have g5 : Ii 12 0 5 = 0 := by rw [lo 5 (by decide), ee, sI_ot _ _ _ _ (by decide), ed, sI_at]
  have g6 : Ii 12 0 6 = -1 := by rw [lo 6 (by decide), ee, sI_at]
  have gk : ∀ k, (k ≤ 1 ∨ (7 ≤ k ∧ k ≤ 12)) → Ii 12 0 k = I 12 0 k := fun k hk => by
    rw [lo k (by omega), ee, sI_ot _ _ _ _ (by omega), ed, sI_ot _ _ _ _ (by omega), ec, sI_ot _ _ _ _ (by omega), eb, sI_ot _ _ _ _ (by omega), ea, sI_ot _ _ _ _ (by omega)]
  have g14 : Ii 12 0 14 = 0 := by rw [ei, sI_ot _ _ _ _ (by decide), eh, sI_ot _ _ _ _ (by decide), eg, sI_ot _ _ _ _ (by decide), ef, sI_at]
  have g15 : Ii 12 0 15 = 0 := by rw [ei, sI_ot _ _ _ _ (by decide), eh, sI_ot _ _ _ _ (by decide), eg, sI_at]
  have g16 : Ii 12 0 16 = 0 := by rw [ei, sI_ot _ _ _ _ (by decide), eh, sI_at]
  have g17 : Ii 12 0 17 = 0 := by rw [ei, sI_at]
  have iX : Ii 12 3 = X := by rw [o12 12 3 (by omega)]; exact hX
  rw [iX]
  generalize hI0 : rI Ii 12 3 (d0 X) = I0
  have p0 : ∀ k, I0 12 0 k = Ii 12 0 k := fun k => by rw [← hI0, rI_ne (by omega)]
  have p3 : I0 12 3 = d0 X := by rw [← hI0, rI_same]
  have pr : ∀ b r, ¬ (b = 12 ∧ (r = 0 ∨ r = 3)) → I0 b r = I b r := fun b r h => by rw [← hI0, rI_ne (fun z => h ⟨z.1, Or.inr z.2⟩)]; exact o12 b r (fun z => h ⟨z.1, Or.inl z.2⟩)
  have S : MS tx n 0 (d0 X) 0 false 0 I0 := ⟨⟨hn, Nat.zero_le _, by rw [p0]; exact g3, by rw [p0]; exact g4, fun k hk => by rw [pr 12 1 (by omega)]; exact hb k hk, by rw [p0]; exact g5⟩, ⟨by decide, by rw [p0]; exact g15⟩, by rw [p0]; exact g16, ⟨by rw [p0]; exact g17, Nat.le_refl _⟩, p3, by rw [p0]; exact g14⟩
  have fr : ∀ I' : MI, (∀ b r, ¬ (b = 12 ∧ (r = 0 ∨ r = 3)) → I' b r = I0 b r) → (∀ k, (k ≤ 2 ∨ (7 ≤ k ∧ k ≤ 12)) → I' 12 0 k = I0 12 0 k) → mrF I I' ∧ I' 12 0 2 = 0 := fun I' h1 h2 => ⟨⟨fun b nb => by funext r; rw [h1 b r (fun z => nb z.1), pr b r (fun z => nb z.1)], fun r h0 h3 => by rw [h1 12 r (by omega), pr 12 r (by omega)], fun k hk => by rw [h2 k (by omega), p0, gk k hk]⟩, by rw [h2 2 (by decide), p0]; exact g2⟩
  have el : spLoad tx n (d0 X) = exB (spRoof tx n 0 (d0 X)) (fun q => spLoop tx n 601 (q.1, q.2, [(1, 0)], 0, false, 0)) := rfl
  rw [el] at hQ hE
  have z0 : dn (d0 X) 0 = 0 := d0_zn X (by decide) (Or.inl rfl)
  refine m_roof S (DW_d0 X) z0 (fun k d' e I2 S2 F2 D2 h1 => ⟨602, ?_⟩) (fun c o e I2 E2 => ⟨1, ?_⟩)
  · have ro := roof_ok (L := [(1, 0)]) (by rw [z0]; decide) e
    rw [e, exB_ok] at hQ hE
    refine m_loop 601 602 (k, d', [(1, 0)], 0, false, 0) I2 (show n - k < 601 by omega) (by decide) ⟨⟨ro.1.1, ro.1.2, hn⟩, D2, h1, ro.2 (RT_d0 X), (show (0 : Nat) < 32 by decide), Nat.zero_le k⟩ S2 (fun s es I3 S3 F3 H3 => ?_) (fun c o es I3 E3 => ?_)
    · have F := F2.trans F3
      have f := fr I3 F.1 (fun k hk => F.2 k (by omega))
      exact hQ s es I3 f.1 f.2 S3.1.2.2.2.2.2 (by rw [F.2 6 (by decide), p0]; exact g6) S3.2.2.2.2.1
    · have E := F2.ME E3
      have f := fr I3 E.1 (fun k hk => E.2.2.2.2 k (by omega))
      exact hE c o es I3 f.1 f.2 E.2.1 E.2.2.2.1 E.2.2.1
  · show f_X8_load_B88 _ _ I2 J
    have f := fr I2 E2.1 (fun k hk => E2.2.2.2.2 k (by omega))
    exact bad_good E2 (q_t rfl (hE c o (by rw [e]; rfl) I2 f.1 f.2 E2.2.1 E2.2.2.2.1 E2.2.2.1))
end MRD
