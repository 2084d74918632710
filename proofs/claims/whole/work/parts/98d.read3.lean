/-! READING FROM THE START: both sides -/
def rdF (I I' : MI) (J J' : MJ) : Prop := (∀ b r, b ≠ 10 → ¬ (b = 11 ∧ (r = 4 ∨ r = 5)) → I' b r = I b r) ∧ ∀ b, b ≠ 10 → J' b = J b
section RDK
variable {tx : Nat → Nat} {n : Nat}
/-- the class' state as it begins -/
theorem KS_d0 {I : MI} {J : MJ} (X : SD) (hn : n ≤ 600) (c3 : I 11 4 3 = nI n) (c4 : I 11 4 4 = 0) (c8 : I 11 4 8 = 0) (c9 : I 11 4 9 = 0) (c10 : I 11 4 10 = 0) (hb : ∀ k, k < n → I 11 5 k = nI (tx k) ∧ tx k < 256) (R : RS 10 I J) : KS tx n 0 (d0 X) [(1, 0)] 0 false 0 (sI I 10 1 3 0) J := by
  have o11 : ∀ r, (sI I 10 1 3 0) 11 r = I 11 r := fun r => by unfold sI; exact rI_ne (by omega)
  have o10 : ∀ r, r ≠ 1 → (sI I 10 1 3 0) 10 r = I 10 r := fun r h => sI_ro _ _ _ _ _ h
  obtain ⟨⟨r3, r4, r5, r6, r7, q9, q10, q11⟩, ra, ⟨rk1, rk2⟩, rr, rp⟩ := R
  have zn : ∀ i, i < 1802 → (i = 0 ∨ 5 ≤ i) → dn (d0 X) i = 0 := fun i h h2 => d0_zn X h h2
  have z0 : dn (d0 X) 0 = 0 := zn 0 (by decide) (Or.inl rfl)
  refine ⟨⟨hn, Nat.zero_le _, ?_, ?_, fun k hk => ?_⟩, ⟨by decide, ?_⟩, ?_, ⟨0, by decide, ?_, fun x hx => ?_⟩, ⟨⟨?_, ?_, ?_, ?_, ?_, ?_, ?_, ?_⟩, ⟨fun _ => 0, fun x hx => ⟨?_, fun _ => ?_, fun h => ?_⟩⟩, fun r hr => ⟨?_, ?_, ?_, ?_, fun h => ?_⟩, fun p hp => ⟨?_, ?_, fun k hk => ?_⟩⟩, ⟨?_, fun i hi => ?_⟩⟩
  · rw [o11]; exact c3
  · rw [o11]; exact c4
  · rw [o11]; exact hb k hk
  · rw [o11]; exact c8
  · rw [o11]; exact c9
  · rw [o11]; exact c10
  · rw [Nat.zero_testBit, zn (10 + x) (by omega) (by omega)]; rfl
  · rw [sI_at, d0_z X (by decide) (Or.inl rfl)]
  · rw [sI_ot _ _ _ _ (by decide), r4, d0_at X (by decide)]; rfl
  · rw [sI_ot _ _ _ _ (by decide), r5, d0_at X (by decide)]; rfl
  · rw [sI_ot _ _ _ _ (by decide), r6, d0_at X (by decide)]; rfl
  · rw [sI_ot _ _ _ _ (by decide), r7, d0_at X (by decide)]; rfl
  · rw [o10 0 (by decide)]; exact q9
  · rw [o10 0 (by decide)]; exact q10
  · rw [o10 0 (by decide)]; exact q11
  · rw [zn (10 + x) (by omega) (by omega)]; exact Nat.le_refl _
  · rw [o10 4 (by decide)]; exact ra _ (by omega)
  · exact absurd (zn (10 + x) (by omega) (by omega)) h
  · rw [o10 8 (by decide)]; exact (rr r hr).2.1
  · rw [o10 9 (by decide)]; exact (rr r hr).2.2.1
  · rw [o10 11 (by decide)]; exact (rr r hr).2.2.2.1
  · exact (rr r hr).2.2.2.2
  · rw [z0] at h; exact absurd h (Nat.not_lt_zero r)
  · rw [o10 13 (by decide), (rp p hp).1, d0_z X (lt_pl hp (k := 1) (by decide)) (Or.inr (show 5 ≤ 306 + 74 * p + 1 by omega))]
  · rw [o10 14 (by decide)]; exact (rp p hp).2
  · have m0 : mMany (d0 X) p = 0 := zn _ (lt_pl hp (k := 1) (by decide)) (Or.inr (show 5 ≤ 306 + 74 * p + 1 by omega))
    rw [m0] at hk; exact absurd hk (Nat.not_lt_zero k)
  · rw [o10 2 (by decide)]; exact rk1
  · have : i = 0 := by
      have : i < 1 := hi
      omega
    subst this
    rw [o10 5 (by decide)]; exact rk2
theorem k_read {I : MI} {J : MJ} (X : SD) {x2 : Int32} {Q : Int32 → MI → MJ → Prop} (hn : n ≤ 600) (e2 : x2 = nI n) (hb : ∀ k, k < n → I 11 1 k = nI (tx k) ∧ tx k < 256)
    (hQ : ∀ st, spLoad tx n (d0 X) = .ok st → ∀ I' J', rdF I I' J J' → I' 11 4 1 = -1 → WF st.2.1 → LV st.2.1 → RC I' J' 10 st.2.1 → Q 0 I' J')
    (hE : ∀ c o, spLoad tx n (d0 X) = .error (c, o) → ∀ I' J', rdF I I' J J' → I' 11 4 1 = nI o → Q c I' J') : f_X5_read x2 I J Q := by
  intro I1 e1
  have l1 : I1 11 4 3 = nI n := by
    rw [e1, sI_at, e2]
    have q : ¬ ((600 : Int32) < 600) := by decide
    rw [if_neg q]
    by_cases y : (600 : Int32) < nI n
    · exact absurd y (Int32.not_lt.mpr (nI_le hn (by decide)))
    · rw [if_neg y]
  have c0 : (0 : Int32).toNatClampNeg = 0 := by decide
  have cn : (nI n).toNatClampNeg = n := nI_clamp (by omega)
  rw [l1, c0, cn]
  refine ⟨⟨by decide, by decide, Int32.not_lt.mpr (nI_le (a := 0) (Nat.zero_le n) (by omega)), by omega, by omega⟩, fun I3 e3 I4 e4 I5 e5 I6 e6 I7 e7 I8 e8 I9 e9 => ?_⟩
  have f4 : ∀ k, I3 11 4 k = I1 11 4 k := fun k => by rw [e3, rI_ne (by omega)]
  have d1 : ∀ b r, ¬ (b = 11 ∧ (r = 4 ∨ r = 5)) → I9 b r = I b r := fun b r h => by
    rw [e9, e8, e7, e6, e5, e4, e3, e1]
    unfold sI
    rw [rI_ne (fun z => h ⟨z.1, Or.inl z.2⟩), rI_ne (fun z => h ⟨z.1, Or.inl z.2⟩), rI_ne (fun z => h ⟨z.1, Or.inl z.2⟩), rI_ne (fun z => h ⟨z.1, Or.inl z.2⟩), rI_ne (fun z => h ⟨z.1, Or.inl z.2⟩), rI_ne (fun z => h ⟨z.1, Or.inl z.2⟩), rI_ne (fun z => h ⟨z.1, Or.inr z.2⟩), rI_ne (fun z => h ⟨z.1, Or.inl z.2⟩)]
  have r5 : ∀ k, k < n → I9 11 5 k = I 11 1 k := fun k hk => by
    rw [e9, sI_ro _ _ _ _ _ (by decide), e8, sI_ro _ _ _ _ _ (by decide), e7, sI_ro _ _ _ _ _ (by decide), e6, sI_ro _ _ _ _ _ (by decide), e5, sI_ro _ _ _ _ _ (by decide), e4, sI_ro _ _ _ _ _ (by decide), e3, rI_same]
    unfold va_cpy
    rw [if_pos (by omega), e1, sI_ro _ _ _ _ _ (by decide), Nat.zero_add, Nat.sub_zero]
  have g3 : I9 11 4 3 = nI n := by
    rw [e9, sI_ot _ _ _ _ (by decide), e8, sI_ot _ _ _ _ (by decide), e7, sI_ot _ _ _ _ (by decide), e6, sI_ot _ _ _ _ (by decide), e5, sI_ot _ _ _ _ (by decide), e4, sI_ot _ _ _ _ (by decide), f4]; exact l1
  have g4 : I9 11 4 4 = 0 := by
    rw [e9, sI_ot _ _ _ _ (by decide), e8, sI_ot _ _ _ _ (by decide), e7, sI_ot _ _ _ _ (by decide), e6, sI_ot _ _ _ _ (by decide), e5, sI_ot _ _ _ _ (by decide), e4, sI_at]
  have g5 : I9 11 4 5 = 0 := by
    rw [e9, sI_ot _ _ _ _ (by decide), e8, sI_ot _ _ _ _ (by decide), e7, sI_ot _ _ _ _ (by decide), e6, sI_ot _ _ _ _ (by decide), e5, sI_at]
  have g1 : I9 11 4 1 = -1 := by
    rw [e9, sI_ot _ _ _ _ (by decide), e8, sI_ot _ _ _ _ (by decide), e7, sI_ot _ _ _ _ (by decide), e6, sI_at]
  have g8 : I9 11 4 8 = 0 := by rw [e9, sI_ot _ _ _ _ (by decide), e8, sI_ot _ _ _ _ (by decide), e7, sI_at]
  have g9 : I9 11 4 9 = 0 := by rw [e9, sI_ot _ _ _ _ (by decide), e8, sI_at]
  have g10 : I9 11 4 10 = 0 := by rw [e9, sI_at]
  refine k_reset (fun Ia Ja fI fJ R => ?_)
  have a11 : Ia 11 = I9 11 := fI 11 (by decide)
  have S := KS_d0 (tx := tx) X hn (by rw [a11]; exact g3) (by rw [a11]; exact g4) (by rw [a11]; exact g8) (by rw [a11]; exact g9) (by rw [a11]; exact g10) (fun k hk => by rw [a11, r5 k hk]; exact hb k hk) R
  have fr : ∀ (I' : MI) (J' : MJ), (∀ b r, b ≠ 10 → ¬ (b = 11 ∧ r = 4) → I' b r = Ia b r) → (∀ b, b ≠ 10 → J' b = Ja b) → rdF I I' J J' := fun I' J' h1 h2 => ⟨fun b r nb m => by rw [h1 b r nb (fun z => m ⟨z.1, Or.inl z.2⟩), fI b nb, d1 b r m], fun b nb => by rw [h2 b nb, fJ b nb]⟩
  have el : spLoad tx n (d0 X) = exB (spRoof tx n 0 (d0 X)) (fun q => spLoop tx n 601 (q.1, q.2, [(1, 0)], 0, false, 0)) := rfl
  rw [el] at hQ hE
  have z0 : dn (d0 X) 0 = 0 := d0_zn X (by decide) (Or.inl rfl)
  refine k_roof S (DW_d0 X) z0 (fun k d' e I2 J2 S2 F2 D2 h1 => ?_) (fun c o e I2 J2 E2 => ⟨1, ?_⟩)
  · have ro := roof_ok (L := [(1, 0)]) (by rw [z0]; decide) e
    rw [e, exB_ok] at hQ hE
    refine ⟨602, ?_⟩
    show f_X5_read_L77 _ 602 1 (nI 0) I2 J2
    refine k_loop 601 0 602 (k, d', [(1, 0)], 0, false, 0) I2 J2 (show n - k < 601 by omega) (by decide) (show 0 < k by omega) ⟨⟨ro.1.1, ro.1.2, hn⟩, D2, h1, ro.2 (RT_d0 X), (show (0 : Nat) < 32 by decide), Nat.zero_le k⟩ S2 (fun s es I3 J3 S3 F3 H3 => ?_) (fun c o es I3 J3 E3 => ?_)
    · have F := F2.trans F3
      have rf := read_fin H3 S3.2.2.2.2.1 S3.2.2.2.2.2
      have c5 : I3 11 4 5 = 0 := by rw [F.2.2 5 (by decide), a11]; exact g5
      show Q (I3 11 4 5) I3 J3
      rw [c5]
      exact hQ s es I3 J3 (fr I3 J3 F.1 F.2.1) (by rw [F.2.2 1 (by decide), a11]; exact g1) rf.1 rf.2.1 rf.2.2
    · have E := F2.kE E3
      show Q (I3 11 4 5) I3 J3
      rw [E.1.2.1]
      exact hE c o es I3 J3 (fr I3 J3 E.1.1 E.2) E.1.2.2
  · show f_X5_read_B77 _ _ 0 (nI 0) I2 J2
    refine q_f (nge (n := 600) (by decide) (by decide)) (q_t rfl ?_)
    show Q (I2 11 4 5) I2 J2
    rw [E2.1.2.1]
    exact hE c o (by rw [e]; rfl) I2 J2 (fr I2 J2 E2.1.1 E2.2) E2.1.2.2
end RDK
