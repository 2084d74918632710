/-! A WHOLE SETUP TEXT: the model's loop, both sides from the start -/
theorem m_layGame {I : MI} {J : MJ} {r1 : Nat} {Q : MI → MJ → Prop} (h : Q (rI I 12 r1 (d0 (I 12 r1))) J) : f_X8_layGame 12 r1 1802 I J Q := by
  refine ⟨1802 + 1, up_inv (fun m (s : MI) j => f_X8_layGame_L2 12 r1 1802 _ m j s J) (fun i s => s = rI I 12 r1 (cpd (fun _ => 0) (I 12 r1) i)) 1802 (fun m s hs => ?_) (fun m s i hi hs ih => ?_) I (by rw [cpd_0]; exact (rI_id I 12 r1).symm)⟩
  · show f_X8_layGame_B2 _ _ _ _ _ _ s J
    refine q_t (Int32.le_refl _) ⟨vin 1 1802 (by decide) (by decide) rfl, fun I11 e11 => ⟨vin 2 1802 (by decide) (by decide) rfl, fun I13 e13 => ⟨vin 3 1802 (by decide) (by decide) rfl, fun I15 e15 => ⟨vin 4 1802 (by decide) (by decide) rfl, fun I17 e17 => ?_⟩⟩⟩⟩
    have c1 : (1 : Int32).toNatClampNeg = 1 := by decide
    have c2 : (2 : Int32).toNatClampNeg = 2 := by decide
    have c3 : (3 : Int32).toNatClampNeg = 3 := by decide
    have c4 : (4 : Int32).toNatClampNeg = 4 := by decide
    rw [c1] at e11
    rw [c2] at e13
    rw [c3] at e15
    rw [c4] at e17
    have e : I17 = rI I 12 r1 (d0 (I 12 r1)) := by
      have x : I17 = rI I 12 r1 (upd (upd (upd (upd (cpd (fun _ => 0) (I 12 r1) 1802) 1 2) 2 2) 3 1) 4 5) := by
        rw [e17, e15, e13, e11, hs]
        unfold sI
        simp only [rI_same, rI_rI]
      rw [x]
      congr 1
      funext i
      unfold d0 cpd ini upd
      by_cases q4 : i = 4
      · subst q4; rfl
      · by_cases q3 : i = 3
        · subst q3; rfl
        · by_cases q2 : i = 2
          · subst q2; rfl
          · by_cases q1 : i = 1
            · subst q1; rfl
            · rw [if_neg q4, if_neg q3, if_neg q2, if_neg q1, if_neg q1, if_neg q2, if_neg q3, if_neg q4]
    rw [e]
    exact h
  · show f_X8_layGame_B2 _ _ _ _ _ _ s J
    refine q_f (nge hi (by decide)) ⟨vin i 1802 hi (by decide) rfl, fun s2 es2 j ej => ih s2 j ?_ (by rw [ej, nI_1])⟩
    rw [es2, nI_clamp (show i < 2 ^ 31 by omega)]
    show rI s 12 r1 (upd (s 12 r1) i ((fun _ => 0) i)) = _
    rw [hs, rI_same, cpd_s, rI_rI]
section MLP
variable {tx : Nat → Nat} {n : Nat}
theorem m_loop {K : MI → MJ → Prop} {J : MJ} : ∀ (f m : Nat) (st : S6) (I : MI), n - st.1 < f → f + 1 ≤ m → IS n st → MS tx n st.1 st.2.1 st.2.2.2.1 st.2.2.2.2.1 st.2.2.2.2.2 I →
    (∀ s, spLoop tx n f st = .ok s → ∀ I', MS tx n s.1 s.2.1 s.2.2.2.1 s.2.2.2.2.1 s.2.2.2.2.2 I' → mF I I' → IS n s → K I' J) → (∀ e o, spLoop tx n f st = .error (e, o) → ∀ I', ME e o I I' → K I' J) → f_X8_load_L88 K m I J := by
  intro f
  induction f with
  | zero => intro m st I h; omega
  | succ f ih =>
    intro m st I hf hm H S hQ hE
    obtain ⟨m', rfl⟩ : ∃ m', m = m' + 1 := ⟨m - 1, by omega⟩
    have n6 := S.1.1
    have ni := S.1.2.1
    have z := skp_ok (tx := tx) (n := n) ni
    have sk : skp tx n (skp tx n st.1) = skp tx n st.1 := skp_skp ni
    have bad : ∀ (e : Int32) (o : Nat) (I' : MI), ME e o I I' → K I' J → f_X8_load_L88 K m' I' J := by
      intro e o I' er k
      obtain ⟨m'', rfl⟩ : ∃ m'', m' = m'' + 1 := ⟨m' - 1, by omega⟩
      show f_X8_load_B88 K _ I' J
      exact bad_good er (q_t rfl k)
    show f_X8_load_B88 K _ I J
    refine m_good S.1 (q_f (by decide) (m_ahead S.1 (fun I1 a1 f1 _ => ?_)))
    have S1 := MS_mo S f1 z.1.1 a1
    have e1 : spLoop tx n (f + 1) st = if bt tx n (skp tx n st.1) = 256 then .ok (skp tx n st.1, st.2) else exB (spStmt tx n st) (fun s => spLoop tx n f s) := rfl
    rw [e1] at hQ hE
    have iff := eB_end (MA_le S.1 (skp tx n st.1))
    obtain ⟨⟨h4, h5, h6⟩, H2⟩ := id H
    refine ⟨fun y => ?_, fun y => ?_⟩
    · have w := iff.mp y
      rw [if_pos w] at hQ
      exact hQ _ rfl I1 S1 (mF_mo f1) ⟨⟨by show 4 ≤ skp tx n st.1; omega, z.1.2, n6⟩, H2.1, H2.2.1, H2.2.2.1, H2.2.2.2.1, by have := H2.2.2.2.2; show st.2.2.2.2.2 ≤ skp tx n st.1; omega⟩
    · have w : ¬ bt tx n (skp tx n st.1) = 256 := fun q => y (iff.mpr q)
      rw [if_neg w] at hQ hE
      have er : spRun tx n (skp tx n st.1) = spRun tx n st.1 := by unfold spRun; rw [sk]
      have es : spStmt tx n (skp tx n st.1, st.2.1, st.2.2.1, st.2.2.2.1, st.2.2.2.2.1, st.2.2.2.2.2) = spStmt tx n st := by
        unfold spStmt
        show exB (spRun tx n (skp tx n st.1)) _ = _
        rw [er]
        show exB (spRun tx n st.1) (fun k => exB (spBody tx n (skp tx n (skp tx n st.1)) k _ _ _ _ _) _) = _
        rw [sk]
      refine m_stmt S1 (by omega) H2.1 H2.2.2.1 (fun s eb I2 S2 F2 => ?_) (fun c o eb I2 E2 => bad c o I2 ((mF_mo f1).ME E2) (hE c o ?_ I2 ((mF_mo f1).ME E2)))
      · rw [es] at eb
        have H3 := stmt_ok H eb
        rw [eb, exB_ok] at hQ hE
        have lt1 := H3.1
        have lt2 := H3.2.1.2.1
        have F := (mF_mo f1).trans F2
        exact ih m' s I2 (by omega) (by omega) H3.2 S2 (fun s' e' I' S' F' H4 => hQ s' e' I' S' (F.trans F') H4) (fun e o e' I' E' => hE e o e' I' (F.ME E'))
      · rw [es] at eb
        rw [eb]
        rfl
end MLP
