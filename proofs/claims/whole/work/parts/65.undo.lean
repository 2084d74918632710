/-! UNDO, on both sides -/
section UN
variable {I : MI} {J : MJ}
theorem k_undo {c nx : Nat} {dd : Nat → Int32} {Q : Int32 → MI → MJ → Prop} (hc : c ≤ 8) (hn : nx < 8) (ec : I 11 2 2 = nI c) (en : I 11 2 1 = nI nx) (g : 0 < c → WF dd ∧ RC I J (2 + (nx + 7) % 8) dd) (h0 : c = 0 → Q (-1) I J)
    (h1 : 0 < c → ∀ I' J', RC I' J' 0 dd → (∀ b, b ≠ 0 → b ≠ 11 → I' b = I b) → (∀ r, r ≠ 2 → I' 11 r = I 11 r) → I' 11 2 1 = nI ((nx + 7) % 8) → I' 11 2 2 = nI (c - 1) → (∀ b, b ≠ 0 → J' b = J b) → Q (nI (c - 1)) I' J') : f_X7_undo I J Q := by
  have fin : 0 < c → ∀ v : Int32, v = nI ((nx + 7) % 8) → f_X2_restore_J28 0 (fun (v_3 : Int32) (I_1 : MI) (J_2 : MJ) => Q v_3 I_1 J_2) v I J := by
    intro hp v ev I6 e6 I7 e7
    have lt : (nx + 7) % 8 < 8 := Nat.mod_lt _ (by decide)
    have n7 : I7 11 2 1 = nI ((nx + 7) % 8) := by rw [e7, sI_ot _ _ _ _ (by decide), e6, sI_at]; exact ev
    have c7 : I7 11 2 2 = nI (c - 1) := by rw [e7, sI_at, e6, sI_ot _ _ _ _ (by decide), ec, nlit 1]; exact nsub hp
    have o7 : ∀ b, b ≠ 11 → I7 b = I b := fun b hb => by
      funext r
      rw [e7, e6]
      unfold sI
      rw [rI_ne (fun z => hb z.1), rI_ne (fun z => hb z.1)]
    have r7 : ∀ r, r ≠ 2 → I7 11 r = I 11 r := fun r hr => by rw [e7, sI_ro _ _ _ _ _ hr, e6, sI_ro _ _ _ _ _ hr]
    refine ⟨vin _ 8 lt (by decide) n7, ?_⟩
    rw [cln (by omega) n7]
    refine g_copyFrom (by omega) (g hp).1 (RC_blk (g hp).2 (o7 _ (by omega)) (Eq.refl _)) (fun I9 J9 C9 f1 f2 => ?_)
    have e11 : I9 11 = I7 11 := f1 11 (by decide)
    have z := h1 hp I9 J9 C9 (fun b hb h11 => by rw [f1 b hb, o7 b h11]) (fun r hr => by rw [e11, r7 r hr]) (by rw [e11]; exact n7) (by rw [e11]; exact c7) f2
    show Q (I9 11 2 2) I9 J9
    rw [e11, c7]
    exact z
  refine q_eq c 0 (by omega) (by decide) ec rfl (fun q => h0 q) (fun q => q_le nx 0 (by omega) (by decide) en rfl (fun z => ?_) (fun z => ?_))
  · exact fin (by omega) 7 (by rw [show (nx + 7) % 8 = 7 by omega]; rfl)
  · exact fin (by omega) _ (by rw [en, nlit 1, nsub (by omega), show (nx + 7) % 8 = nx - 1 by omega])
theorem m_undo {c : Nat} {Q : Int32 → MI → MJ → Prop} (hc : c ≤ 8) (ec : I 12 0 12 = nI c) (h0 : c = 0 → Q (-1) (tI I) J)
    (h1 : 0 < c → ∀ I', (∀ b, b ≠ 12 → I' b = I b) → (∀ r, r ≠ 0 → r ≠ 2 → I' 12 r = I 12 r) → (∀ i, i ≠ 0 → i ≠ 12 → I' 12 0 i = I 12 0 i) → I' 12 0 12 = nI (c - 1) → eqd (I 12 (6 + (c - 1))) (I' 12 2) → Q (nI (c - 1)) I' J) : f_X8_undo I J Q := by
  intro I1 e1
  have c1 : I1 12 0 12 = nI c := by rw [e1, sI_ot _ _ _ _ (by decide)]; exact ec
  refine q_eq c 0 (by omega) (by decide) c1 rfl (fun q => by rw [e1]; exact h0 q) (fun q I3 e3 => ?_)
  have c3 : I3 12 0 12 = nI (c - 1) := by rw [e3, sI_at, c1, nlit 1]; exact nsub (by omega)
  refine ⟨vin _ 8 (by omega) (by decide) c3, ?_⟩
  rw [cln (by omega) c3]
  have r3 : ∀ r, r ≠ 0 → I3 12 r = I 12 r := fun r hr => by rw [e3, sI_ro _ _ _ _ _ hr, e1, sI_ro _ _ _ _ _ hr]
  refine m_copy (n := 1802) rfl (by omega) (by decide) (by decide) (by decide) (by decide) ?_
  show Q (rI I3 12 2 _ 12 0 12) (rI I3 12 2 _) J
  rw [rI_ne (by decide), c3]
  refine h1 (by omega) _ (fun b hb => ?_) (fun r h0 h2 => ?_) (fun i hi h12 => ?_) ?_ ?_
  · funext r
    rw [rI_ne (fun z => hb z.1), e3, e1]
    unfold sI
    rw [rI_ne (fun z => hb z.1), rI_ne (fun z => hb z.1)]
  · rw [rI_ne (fun z => h2 z.2), r3 r h0]
  · rw [rI_ne (by decide), e3, sI_ot _ _ _ _ h12, e1, sI_ot _ _ _ _ hi]
  · rw [rI_ne (by decide)]; exact c3
  · rw [rI_same, r3 _ (by omega)]; exact eqd_cpd _ _
theorem b_undo (V : INV I J) : f_X7_undo I J (fun v I1 J1 => f_X8_undo I1 J1 (fun w I2 J2 => v = w ∧ INV I2 J2)) := by
  have V0 := V
  obtain ⟨⟨W, L, C⟩, ⟨c, nx, hc, hn, a1, a2, a3, H⟩, ⟨n, b1, b2, b3, b4⟩, e⟩ := V
  have ix : 0 < c → (nx + 8 - c + (c - 1)) % 8 = (nx + 7) % 8 := fun _ => by omega
  refine k_undo (dd := I 12 (6 + (c - 1))) hc hn a2 a3 (fun hp => ?_) (fun q => ?_) (fun hp I1 J1 C1 f1 f2 f3 f4 f5 => ?_)
  · have g := H (c - 1) (by omega)
    rw [ix hp] at g
    exact ⟨g.1, g.2.2⟩
  · exact m_undo hc a1 (fun _ => ⟨rfl, INV_m V0 tI_m⟩) (fun z => absurd z (by omega))
  · have i12 : I1 12 = I 12 := f1 12 (by decide) (by decide)
    refine m_undo hc (by rw [i12]; exact a1) (fun z => absurd z (by omega)) (fun _ I2 g1 g2 g3 g4 g5 => ⟨rfl, ?_⟩)
    rw [i12] at g2 g3 g5
    have g := H (c - 1) (by omega)
    have i11 : I2 11 = I1 11 := g1 11 (by decide)
    refine ⟨⟨WF_eqd g.1 g5, LV_eqd g.2.1 g5, RC_eqd g.1 (RC_blk C1 (g1 0 (by decide)) (Eq.refl _)) g5⟩, ⟨c - 1, (nx + 7) % 8, by omega, Nat.mod_lt _ (by decide), g4, by rw [i11]; exact f4, by rw [i11]; exact f3, fun k hk => ?_⟩, ⟨n, b1, by rw [i11, f2 0 (by decide)]; exact b2, by rw [g3 2 (by decide) (by decide)]; exact b3, fun i hi => ?_⟩, ?_⟩
    · have z := H k (by omega)
      have lt : (nx + 8 - c + k) % 8 < 8 := Nat.mod_lt _ (by decide)
      have ek : ((nx + 7) % 8 + 8 - (c - 1) + k) % 8 = (nx + 8 - c + k) % 8 := by omega
      rw [g2 (6 + k) (by omega) (by omega), ek]
      exact ⟨z.1, z.2.1, RC_blk z.2.2 (by rw [g1 _ (by omega), f1 _ (by omega) (by omega)]) (f5 _ (by omega))⟩
    · rw [i11, f2 1 (by decide), g2 1 (by decide) (by decide)]
      exact b4 i hi
    · rw [i11, f2 0 (by decide), g3 7 (by decide) (by decide)]
      exact e
end UN
