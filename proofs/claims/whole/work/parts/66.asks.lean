/-! CALLS WITHOUT ARGUMENTS THAT ONLY ASK: both answers, and what holds behind them -/
section AS
variable {I : MI} {J : MJ}
theorem fR_sI2 {I' : MI} (h : sI2 0 I I') : fR I I' J J :=
  ⟨fun b h0 _ _ => by funext r; exact h b r (fun z => h0 z.1), fun r h6 h15 => h 0 r (fun z => z.2.elim h6 h15), fun r _ => h 11 r (by omega), fun _ _ => Eq.refl _⟩
theorem mR_sJ2 {J' : MJ} (h : sJ2 J J') : mR (tI I) (tI I) J J' :=
  ⟨fun _ _ => Eq.refl _, Eq.refl _, Eq.refl _, fun _ _ => Eq.refl _, fun _ _ => Eq.refl _, fun b hb => by funext r; exact h b r (fun z => hb z.1)⟩
theorem b_best (V : INV I J) : f_X7_best I J (fun v I1 J1 => f_X8_best I1 J1 (fun w I2 J2 => v = w ∧ INV I2 J2)) := by
  have V0 := V
  obtain ⟨⟨W, Lv, C⟩, -⟩ := V
  obtain ⟨L, T, G⟩ := RK_tok C.2.2.2.2
  refine g_bestPlay W C L T G (fun v I1 hs hv => ?_)
  have f : fR I I1 J J := fR_sI2 hs
  have V1 := INV_f V0 f
  have e12 : I1 12 2 = I 12 2 := by rw [f.1 12 (by decide) (by decide) (by decide)]
  intro I2 e2
  have q2 : I2 12 2 = I 12 2 := by rw [e2, sI_ro _ _ _ _ _ (by decide), e12]
  refine m_bestPlay (by rw [q2]; exact W) L (by rw [q2]; exact T) (fun w J2 hJ hw => ⟨?_, ?_⟩)
  · rw [q2, ← hv] at hw
    exact Int32.toInt_inj.mp hw.symm
  · have m1 : mR I1 I2 J J := by rw [e2]; exact tI_m
    refine INV_m V1 (m1.trans ?_)
    exact ⟨fun _ _ => Eq.refl _, Eq.refl _, Eq.refl _, fun _ _ => Eq.refl _, fun _ _ => Eq.refl _, fun b hb => by funext r; exact hJ b r (fun z => hb z.1)⟩
theorem b_stepsToEnd (V : INV I J) : f_X7_stepsToEnd I J (fun v I1 J1 => f_X8_stepsToEnd I1 J1 (fun w I2 J2 => v = w ∧ INV I2 J2)) := by
  have V0 := V
  obtain ⟨⟨W, Lv, C⟩, -⟩ := V
  refine k_stepsToEnd W Lv C (fun L T I1 J1 f => ?_)
  have V1 := INV_f V0 f
  have e12 : I1 12 2 = I 12 2 := by rw [f.1 12 (by decide) (by decide) (by decide)]
  refine m_stepsToEnd (L := L) (by rw [e12]; exact W) (by rw [e12]; exact Lv) (by rw [e12]; exact T) (fun I2 J2 m => ⟨?_, INV_m V1 m⟩)
  rw [e12, gon_lim L 165 (I 12 2) 0 (l1 := 1000000) (l2 := 2147483647) (by decide) (by decide)]
theorem b_winner (V : INV I J) : f_X7_winner I J (fun v I1 J1 => f_X8_winner I1 J1 (fun w I2 J2 => v = w ∧ INV I2 J2)) := by
  have V0 := V
  obtain ⟨⟨W, Lv, C⟩, -⟩ := V
  refine k_winner W Lv C (fun L T I1 J1 f => ?_)
  have V1 := INV_f V0 f
  have e12 : I1 12 2 = I 12 2 := by rw [f.1 12 (by decide) (by decide) (by decide)]
  refine m_winner (L := L) (by rw [e12]; exact W) (by rw [e12]; exact Lv) (by rw [e12]; exact T) (fun I2 J2 m => ⟨?_, INV_m V1 m⟩)
  rw [e12, gon_lim L 165 (I 12 2) 0 (l1 := 1000000) (l2 := 2147483647) (by decide) (by decide)]
theorem b_checksum (V : INV I J) : f_X7_checksum I J (fun v I1 J1 => f_X8_checksum I1 J1 (fun w I2 J2 => v = w ∧ INV I2 J2)) := by
  obtain ⟨⟨W, Lv, C⟩, -⟩ := id V
  exact k_checksum W C (m_checksum W ⟨rfl, INV_m V tI_m⟩)
theorem b_errorOffset (V : INV I J) : f_X7_errorOffset I J (fun v I1 J1 => f_X8_errorOffset I1 J1 (fun w I2 J2 => v = w ∧ INV I2 J2)) := by
  obtain ⟨-, -, -, e⟩ := id V
  intro I1 e1
  refine ⟨?_, by rw [e1]; exact INV_m V tI_m⟩
  rw [e1, sI_ot _ _ _ _ (by decide)]
  exact e
end AS
