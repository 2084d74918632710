/-! HOW IT BEGINS: a game of the class just made, and the model's data just laid -/
theorem begin_game {I : MI} {J : MJ} (X : SD) (R : RS 0 I J) : WF (layR (d0 X) 10) ∧ LV (layR (d0 X) 10) ∧ RC I J 0 (layR (d0 X) 10) := by
  obtain ⟨I2, hI2⟩ : ∃ I2 : MI, I2 = fun b r => if b = 10 then I 0 r else if b = 11 then (fun _ => 0) else I b r := ⟨_, rfl⟩
  obtain ⟨J2, hJ2⟩ : ∃ J2 : MJ, J2 = fun b r => if b = 10 then J 0 r else J b r := ⟨_, rfl⟩
  have i10 : ∀ r, I2 10 r = I 0 r := fun r => by rw [hI2]; rfl
  have j10 : ∀ r, J2 10 r = J 0 r := fun r => by rw [hJ2]; rfl
  have i11 : ∀ r i, I2 11 r i = 0 := fun r i => by rw [hI2]; rfl
  have R2 : RS 10 I2 J2 := by
    unfold RS at R ⊢
    rw [i10, i10, i10, i10, i10, i10, i10, i10, i10, i10, i10, j10]
    exact R
  have S := KS_d0 (tx := fun _ => 0) (n := 0) X (by decide) (i11 4 3) (i11 4 4) (i11 4 8) (i11 4 9) (i11 4 10) (fun k hk => absurd hk (Nat.not_lt_zero k)) R2
  obtain ⟨⟨q3, -⟩, -, -, qr, -⟩ := id R2
  have z0 : dn (d0 X) 0 = 0 := d0_zn X (by decide) (Or.inl rfl)
  have RR2 : RR I2 J2 (layR (d0 X) 10) 0 := by
    refine RR_row S.2.2.2.2.1 (by rw [z0]; decide) (fun r h1 _ => (sI_ro _ _ _ _ _ h1).symm) ?_ ?_
    · rw [z0, sI_same]
      funext i
      by_cases h : i = 3
      · rw [h, upd_at]; exact q3
      · rw [upd_ot _ _ h, upd_ot _ _ h]
    · rw [z0, sI_ro _ _ _ _ _ (by decide)]
      funext i
      by_cases h : i = 0
      · rw [h, upd_at, (qr 0 (by decide)).1, if_pos rfl]; rfl
      · rw [upd_ot _ _ h]
  have G : gTok I2 10 [(1, 0)] := by
    have g := S.2.2.2.2.2
    unfold gTok at g ⊢
    rw [sI_ro _ _ _ _ _ (by decide), sI_ro _ _ _ _ _ (by decide)] at g
    exact g
  have D : DW (layR (d0 X) 10) := DW_row (DW_d0 X) (by rw [z0]; decide) (by decide) (by decide)
  have far : ∀ i, i ≠ 0 → i ≠ 36 → i ≠ 39 → dn (layR (d0 X) 10) i = dn (d0 X) i := fun i a b c => lr_farn a (by rw [z0]; exact b) (by rw [z0]; exact c)
  have T : RT (layR (d0 X) 10) [(1, 0)] 0 := RT_low (RT_d0 X) rfl (far 8 (by decide) (by decide) (by decide)) (far 9 (by decide) (by decide) (by decide)) (fun q => far (602 + q) (by omega) (by omega) (by omega))
  have one : 1 ≤ dn (layR (d0 X) 10) 0 := by rw [lr_0n (by rw [z0]; decide), z0]; decide
  have f := read_fin (n := 600) (st := (600, layR (d0 X) 10, [(1, 0)], 0, false, 0)) ⟨⟨(show 4 ≤ 600 by decide), Nat.le_refl 600, Nat.le_refl 600⟩, D, one, T, (show (0 : Nat) < 32 by decide), Nat.zero_le 600⟩ RR2 G
  refine ⟨f.1, f.2.1, ?_⟩
  have C := f.2.2
  unfold RC RG RK at C ⊢
  simp only [i10, j10] at C
  exact C
/-- nothing kept yet, nothing in the buffers, no error told -/
theorem INV_begin {I : MI} {J : MJ} (X : SD) (R : RS 0 I J) (hd : I 12 2 = layR (d0 X) 10) (h12 : I 12 0 12 = 0) (h22 : I 11 2 2 = 0) (h21 : I 11 2 1 = 0) (b1 : I 11 0 1 = 0) (b2 : I 12 0 2 = 0) (he : I 11 0 2 = I 12 0 7) : INV I J := by
  have z := begin_game X R
  refine ⟨by rw [hd]; exact z, ⟨0, 0, by decide, by decide, h12, h22, h21, fun k hk => absurd hk (Nat.not_lt_zero k)⟩, BU_0 b1 b2, he⟩
theorem m_layRowI {I : MI} {J : MJ} {X : SD} {Q : MI → MJ → Prop} (hd : I 12 2 = upd (d0 X) 0 1) (h : Q (rI I 12 2 (layR (d0 X) 10)) J) : f_X8_layRow 12 2 1802 (0 : Int32) (10 : Int32) I J Q := by
  have z0 : dn (d0 X) 0 = 0 := d0_zn X (by decide) (Or.inl rfl)
  have e0 : nI (rA 0) + (0 : Int32) = nI 36 := rfl
  have e3 : nI (rA 0) + (3 : Int32) = nI 39 := by rw [nlit 3, nI_add]
  refine m_rowAt 0 rfl ⟨vin 36 1802 (by decide) (by decide) e0, fun I5 e5 => m_rowAt 0 rfl ⟨vin 39 1802 (by decide) (by decide) e3, fun I10 e10 => ?_⟩⟩
  rw [cln (by decide) e0] at e5
  rw [cln (by decide) e3] at e10
  have e : I10 = rI I 12 2 (layR (d0 X) 10) := by
    have x : I10 = rI I 12 2 (upd (upd (upd (d0 X) 0 1) 36 10) 39 (-1)) := by
      rw [e10, e5]
      unfold sI
      rw [rI_same, rI_rI, hd]
    rw [x]
    congr 1
    unfold layR
    rw [z0]
    funext i
    by_cases a : i = 0
    · subst a; rfl
    · by_cases b : i = 39
      · subst b; rfl
      · by_cases c : i = 36
        · subst c; rfl
        · rw [upd_ot _ _ b, upd_ot _ _ c, upd_ot _ _ a, upd_ot _ _ a, upd_ot _ _ (show i ≠ rA 0 + 3 from b), upd_ot _ _ (show i ≠ rA 0 from c)]
  rw [e]
  exact h
