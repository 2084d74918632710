/-! A WHOLE SETUP TEXT: the class' reset and its loop -/
/-- a game as it begins -/
def RS (b : Nat) (I : MI) (J : MJ) : Prop :=
  (I b 1 3 = 1 ∧ I b 1 4 = 2 ∧ I b 1 5 = 2 ∧ I b 1 6 = 1 ∧ I b 1 7 = 5 ∧ I b 0 9 = 0 ∧ I b 0 10 = 0 ∧ I b 0 11 = 0) ∧ (∀ i, i < 32 → I b 4 i = nI i) ∧ (I b 2 2 = 1 ∧ I b 5 0 = -1) ∧
  (∀ r, r < 6 → I b 3 r = (if r = 0 then 10 else 0) ∧ I b 8 r = 0 ∧ I b 9 r = 0 ∧ I b 11 r = -1 ∧ J b 10 r = 0) ∧ ∀ p, p < 4 → I b 13 p = 0 ∧ I b 14 p = 0
section RST
variable {I : MI} {J : MJ} {b : Nat}
theorem k_fillJ {b1 r1 n1 : Nat} {x : Int64} {Q : MI → MJ → Prop} (hn : n1 < 2 ^ 31) (h : ∀ J', (∀ b' r', ¬ (b' = b1 ∧ r' = r1) → J' b' r' = J b' r') → (∀ i, i < n1 → J' b1 r1 i = x) → Q I J') : f_J7_fill_d0a16 b1 r1 n1 x I J Q := by
  intro x3 e3
  refine ⟨n1 + 1, up_inv (fun m (s : MJ) j => f_J7_fill_d0a16_L6 b1 r1 n1 x x3 Q m j I s) (fun i s => (∀ b' r', ¬ (b' = b1 ∧ r' = r1) → s b' r' = J b' r') ∧ ∀ k, k < i → s b1 r1 k = x) n1 (fun m s hs => ?_) (fun m s i hi hs ih => ?_) J ⟨fun _ _ _ => rfl, fun k hk => absurd hk (Nat.not_lt_zero k)⟩⟩
  · show f_J7_fill_d0a16_B6 _ _ _ _ _ _ _ _ I s
    exact q_t (by rw [e3]; exact Int32.le_refl _) (h s hs.1 hs.2)
  · show f_J7_fill_d0a16_B6 _ _ _ _ _ _ _ _ I s
    refine q_f (by rw [e3]; exact nge hi hn) ⟨vin i n1 hi hn rfl, fun s2 e2 j ej => ih s2 j ⟨fun b' r' n => ?_, fun k hk => ?_⟩ (by rw [ej, nI_1])⟩
    · rw [e2]
      unfold sJ
      rw [rJ_ne n]
      exact hs.1 b' r' n
    · rw [e2, nI_clamp (by omega)]
      by_cases q : k = i
      · rw [q, sJ_at]
      · rw [sJ_ot _ _ _ _ q]; exact hs.2 k (by omega)
theorem k_reset4 {Q : MI → MJ → Prop} (h : ∀ I', (∀ b' r, ¬ (b' = b ∧ (r = 1 ∨ r = 2 ∨ r = 3 ∨ r = 4 ∨ r = 5)) → I' b' r = I b' r) → (I' b 1 3 = 1 ∧ I' b 1 4 = 2 ∧ I' b 1 5 = 2 ∧ I' b 1 6 = 1 ∧ I' b 1 7 = 5) → (∀ i, i < 32 → I' b 4 i = nI i) → (I' b 2 2 = 1 ∧ I' b 5 0 = -1) → (∀ r, r < 6 → I' b 3 r = (if r = 0 then 10 else 0)) → Q I' J) : f_X4_reset b I J Q := by
  refine k_fill (by decide) (fun I1 f1 z1 => ⟨vin 0 6 (by decide) (by decide) rfl, fun I4 e4 => ⟨33, ?_⟩⟩)
  refine up_inv (fun m (s : MI) j => f_X4_reset_L18 b _ m j s J) (fun i s => (∀ b' r, ¬ (b' = b ∧ r = 4) → s b' r = I4 b' r) ∧ ∀ k, k < i → s b 4 k = nI k) 32 (fun m s hs => ?_) (fun m s i hi hs ih => ?_) I4 ⟨fun _ _ _ => rfl, fun k hk => absurd hk (Nat.not_lt_zero k)⟩
  · show f_X4_reset_B18 _ _ _ _ s J
    obtain ⟨h1, h2⟩ := hs
    refine q_t (Int32.le_refl _) (fun I5 e5 => ?_)
    have c5 : I5 b 2 2 = 0 := by rw [e5, sI_at]
    refine q_f (by rw [c5]; decide) ⟨vin 0 600 (by decide) (by decide) (by rw [c5]; rfl), fun I6 e6 I7 e7 I16 e16 I17 e17 I18 e18 I19 e19 I20 e20 => ?_⟩
    have c50 : (I5 b 2 2).toNatClampNeg = 0 := by rw [c5]; rfl
    rw [c50] at e6
    have lo : ∀ r, r ≠ 1 → r ≠ 2 → r ≠ 5 → I20 b r = s b r := fun r n1 n2 n5 => by
      rw [e20, sI_ro _ _ _ _ _ n1, e19, sI_ro _ _ _ _ _ n1, e18, sI_ro _ _ _ _ _ n1, e17, sI_ro _ _ _ _ _ n1, e16, sI_ro _ _ _ _ _ n1, e7, sI_ro _ _ _ _ _ n2, e6, sI_ro _ _ _ _ _ n5, e5, sI_ro _ _ _ _ _ n2]
    have up : ∀ r, r ≠ 1 → I20 b r = I7 b r := fun r n1 => by
      rw [e20, sI_ro _ _ _ _ _ n1, e19, sI_ro _ _ _ _ _ n1, e18, sI_ro _ _ _ _ _ n1, e17, sI_ro _ _ _ _ _ n1, e16, sI_ro _ _ _ _ _ n1]
    refine h I20 (fun b' r n => ?_) ⟨?_, ?_, ?_, ?_, ?_⟩ (fun i hi => ?_) ⟨?_, ?_⟩ (fun r hr => ?_)
    · have z : I20 b' r = s b' r := by
        rw [e20, e19, e18, e17, e16, e7, e6, e5]
        unfold sI
        rw [rI_ne (fun w => n ⟨w.1, by omega⟩), rI_ne (fun w => n ⟨w.1, by omega⟩), rI_ne (fun w => n ⟨w.1, by omega⟩), rI_ne (fun w => n ⟨w.1, by omega⟩), rI_ne (fun w => n ⟨w.1, by omega⟩), rI_ne (fun w => n ⟨w.1, by omega⟩), rI_ne (fun w => n ⟨w.1, by omega⟩), rI_ne (fun w => n ⟨w.1, by omega⟩)]
      rw [z, h1 b' r (fun w => n ⟨w.1, by omega⟩), e4]
      unfold sI
      rw [rI_ne (fun w => n ⟨w.1, by omega⟩), f1 b' r (fun w => n ⟨w.1, by omega⟩)]
    · rw [e20, sI_ot _ _ _ _ (by decide), e19, sI_ot _ _ _ _ (by decide), e18, sI_ot _ _ _ _ (by decide), e17, sI_ot _ _ _ _ (by decide), e16, sI_at]
    · rw [e20, sI_ot _ _ _ _ (by decide), e19, sI_ot _ _ _ _ (by decide), e18, sI_ot _ _ _ _ (by decide), e17, sI_at]
    · rw [e20, sI_ot _ _ _ _ (by decide), e19, sI_ot _ _ _ _ (by decide), e18, sI_at]
    · rw [e20, sI_ot _ _ _ _ (by decide), e19, sI_at]
    · rw [e20, sI_at]
    · rw [lo 4 (by decide) (by decide) (by decide)]; exact h2 i hi
    · rw [up 2 (by decide), e7, sI_at, e6, sI_ro _ _ _ _ _ (by decide), c5]; rfl
    · rw [up 5 (by decide), e7, sI_ro _ _ _ _ _ (by decide), e6, sI_at]
    · rw [lo 3 (by decide) (by decide) (by decide), h1 b 3 (by omega), e4]
      by_cases q : r = 0
      · rw [q, if_pos rfl]; exact sI_at _ _ _ _ _
      · rw [if_neg q]
        have : (0 : Int32).toNatClampNeg = 0 := by decide +kernel
        rw [this, sI_ot _ _ _ _ q]
        exact z1 r hr
  · show f_X4_reset_B18 _ _ _ _ s J
    obtain ⟨h1, h2⟩ := hs
    refine q_f (nge hi (by decide)) ⟨vin i 32 hi (by decide) rfl, fun s2 e2 j ej => ih s2 j ⟨fun b' r n => ?_, fun k hk => ?_⟩ (by rw [ej, nI_1])⟩
    · rw [e2]
      unfold sI
      rw [rI_ne n]
      exact h1 b' r n
    · rw [e2, nI_clamp (by omega)]
      by_cases q : k = i
      · rw [q, sI_at]
      · rw [sI_ot _ _ _ _ q]; exact h2 k (by omega)
theorem k_reset {Q : MI → MJ → Prop} (h : ∀ I' J', (∀ b', b' ≠ b → I' b' = I b') → (∀ b', b' ≠ b → J' b' = J b') → RS b I' J' → Q I' J') : f_X1_reset b I J Q := by
  refine k_reset4 (fun I1 f1 a1 a4 a2 a3 => ?_)
  refine k_fill (by decide) (fun I7 f7 _ => k_fill (by decide) (fun I8 f8 z8 => k_fill (by decide) (fun I9 f9 z9 => k_fillJ (by decide) (fun J10 g10 y10 => k_fill (by decide) (fun I11 f11 z11 => k_fillJ (by decide) (fun J12 g12 _ => k_fill (by decide) (fun I13 f13 z13 => k_fill (by decide) (fun I14 f14 z14 => fun Ia ea Ib eb Ic ec => ?_))))))))
  have lo : ∀ r, r ≠ 0 → Ic b r = I14 b r := fun r n => by rw [ec, sI_ro _ _ _ _ _ n, eb, sI_ro _ _ _ _ _ n, ea, sI_ro _ _ _ _ _ n]
  have r14 : ∀ r, r ≠ 14 → I14 b r = I13 b r := fun r n => f14 b r (fun z => n z.2)
  have r13 : ∀ r, r ≠ 13 → I13 b r = I11 b r := fun r n => f13 b r (fun z => n z.2)
  have r11 : ∀ r, r ≠ 11 → I11 b r = I9 b r := fun r n => f11 b r (fun z => n z.2)
  have r9 : ∀ r, r ≠ 9 → I9 b r = I8 b r := fun r n => f9 b r (fun z => n z.2)
  have r8 : ∀ r, r ≠ 8 → I8 b r = I7 b r := fun r n => f8 b r (fun z => n z.2)
  have r7 : ∀ r, r ≠ 7 → I7 b r = I1 b r := fun r n => f7 b r (fun z => n z.2)
  have dn1 : ∀ r, r ≠ 0 → r ≤ 5 → Ic b r = I1 b r := fun r n0 n5 => by rw [lo r n0, r14 r (by omega), r13 r (by omega), r11 r (by omega), r9 r (by omega), r8 r (by omega), r7 r (by omega)]
  refine h Ic J12 (fun b' nb => ?_) (fun b' nb => ?_) ⟨⟨?_, ?_, ?_, ?_, ?_, ?_, ?_, ?_⟩, fun i hi => ?_, ⟨?_, ?_⟩, fun r hr => ⟨?_, ?_, ?_, ?_, ?_⟩, fun p hp => ⟨?_, ?_⟩⟩
  · funext r
    rw [ec, eb, ea]
    unfold sI
    rw [rI_ne (fun z => nb z.1), rI_ne (fun z => nb z.1), rI_ne (fun z => nb z.1), f14 b' r (fun z => nb z.1), f13 b' r (fun z => nb z.1), f11 b' r (fun z => nb z.1), f9 b' r (fun z => nb z.1), f8 b' r (fun z => nb z.1), f7 b' r (fun z => nb z.1)]
    exact f1 b' r (fun z => nb z.1)
  · funext r
    rw [g12 b' r (fun z => nb z.1)]
    exact g10 b' r (fun z => nb z.1)
  · rw [dn1 1 (by decide) (by decide)]; exact a1.1
  · rw [dn1 1 (by decide) (by decide)]; exact a1.2.1
  · rw [dn1 1 (by decide) (by decide)]; exact a1.2.2.1
  · rw [dn1 1 (by decide) (by decide)]; exact a1.2.2.2.1
  · rw [dn1 1 (by decide) (by decide)]; exact a1.2.2.2.2
  · rw [ec, sI_ot _ _ _ _ (by decide), eb, sI_ot _ _ _ _ (by decide), ea, sI_at]
  · rw [ec, sI_ot _ _ _ _ (by decide), eb, sI_at]
  · rw [ec, sI_at]
  · rw [dn1 4 (by decide) (by decide)]; exact a4 i hi
  · rw [dn1 2 (by decide) (by decide)]; exact a2.1
  · rw [dn1 5 (by decide) (by decide)]; exact a2.2
  · rw [dn1 3 (by decide) (by decide)]; exact a3 r hr
  · rw [lo 8 (by decide), r14 8 (by decide), r13 8 (by decide), r11 8 (by decide), r9 8 (by decide)]; exact z8 r hr
  · rw [lo 9 (by decide), r14 9 (by decide), r13 9 (by decide), r11 9 (by decide)]; exact z9 r hr
  · rw [lo 11 (by decide), r14 11 (by decide), r13 11 (by decide)]; exact z11 r hr
  · rw [g12 b 10 (by omega)]; exact y10 r hr
  · rw [lo 13 (by decide), r14 13 (by decide)]; exact z13 p hp
  · rw [lo 14 (by decide)]; exact z14 p hp
end RST
section KLP
variable {tx : Nat → Nat} {n : Nat}
theorem eB_end {c : Nat} (h : c ≤ 256) : eB c = -1 ↔ c = 256 := by
  unfold eB
  by_cases q : c = 256
  · rw [if_pos q]; exact ⟨fun _ => q, fun _ => rfl⟩
  · rw [if_neg q]
    refine ⟨fun z => ?_, fun z => absurd z q⟩
    have := congrArg Int32.toInt z
    rw [nI_toInt (by omega)] at this
    have z1 : (-1 : Int32).toInt = -1 := by decide
    omega
theorem k_loop {K : MI → MJ → Prop} : ∀ (f c m : Nat) (st : S6) (I : MI) (J : MJ), n - st.1 < f → f + 1 ≤ m → c < st.1 → IS n st → KS tx n st.1 st.2.1 st.2.2.1 st.2.2.2.1 st.2.2.2.2.1 st.2.2.2.2.2 I J →
    (∀ s, spLoop tx n f st = .ok s → ∀ I' J', KS tx n s.1 s.2.1 s.2.2.1 s.2.2.2.1 s.2.2.2.2.1 s.2.2.2.2.2 I' J' → kF I I' J J' → IS n s → K I' J') → (∀ e o, spLoop tx n f st = .error (e, o) → ∀ I' J', kE e o I I' J J' → K I' J') → f_X5_read_L77 K m 1 (nI c) I J := by
  intro f
  induction f with
  | zero => intro c m st I J h; omega
  | succ f ih =>
    intro c m st I J hf hm hc H S hQ hE
    obtain ⟨m', rfl⟩ : ∃ m', m = m' + 1 := ⟨m - 1, by omega⟩
    have n6 := S.1.1
    have ni := S.1.2.1
    have z := skp_ok (tx := tx) (n := n) ni
    have sk : skp tx n (skp tx n st.1) = skp tx n st.1 := skp_skp ni
    have bad : ∀ (I' : MI) (J' : MJ) (x : Int32), K I' J' → f_X5_read_L77 K m' 0 x I' J' := by
      intro I' J' x k
      obtain ⟨m'', rfl⟩ : ∃ m'', m' = m'' + 1 := ⟨m' - 1, by omega⟩
      show f_X5_read_B77 K _ 0 x I' J'
      exact ⟨fun _ => k, fun _ => q_t rfl k⟩
    show f_X5_read_B77 K _ 1 (nI c) I J
    refine q_f (nge (n := 600) (by omega) (by decide)) (q_f (by decide) (k_peek S.1 (fun I1 a1 f1 _ _ => ?_)))
    have S1 := KS_fo S f1 a1
    have e1 : spLoop tx n (f + 1) st = if bt tx n (skp tx n st.1) = 256 then .ok (skp tx n st.1, st.2) else exB (spStmt tx n st) (fun s => spLoop tx n f s) := rfl
    rw [e1] at hQ hE
    have iff := eB_end (bt_le S.1 (skp tx n st.1))
    refine ⟨fun y => ?_, fun y => ?_⟩
    · have w := iff.mp y
      rw [if_pos w] at hQ
      obtain ⟨⟨h4, h5, h6⟩, H2⟩ := H
      refine hQ _ rfl I1 J S1 (kF_fo f1) ⟨⟨by show 4 ≤ skp tx n st.1; omega, z.1.2, n6⟩, H2.1, H2.2.1, H2.2.2.1, H2.2.2.2.1, by have := H2.2.2.2.2; show st.2.2.2.2.2 ≤ skp tx n st.1; omega⟩
    · have w : ¬ bt tx n (skp tx n st.1) = 256 := fun q => y (iff.mpr q)
      rw [if_neg w] at hQ hE
      have er : spRun tx n (skp tx n st.1) = spRun tx n st.1 := by unfold spRun; rw [sk]
      refine k_run a1 (fun k ek I2 a2 f2 e7 gt => q_f (by decide) ?_) (fun e o ek I2 er2 => q_t rfl (fun x _ => bad I2 J x (hE e o ?_ I2 J ((kF_fo f1).kE (kE_er er2)))))
      · rw [er] at ek
        rw [sk] at e7 gt
        have S2 := KS_fo S1 f2 a2
        have H' := H
        obtain ⟨⟨h4, h5, h6⟩, D, h1, R, hs, hg⟩ := H
        have es : spStmt tx n st = exB (spBody tx n (skp tx n st.1) k st.2.1 st.2.2.1 st.2.2.2.1 st.2.2.2.2.1 st.2.2.2.2.2) (fun s => exB (spSign tx n 59 s.1) (fun e => .ok (e, s.2))) := by
          unfold spStmt
          rw [ek, exB_ok]
        refine k_stmt S2 e7 (Nat.le_of_lt gt) (by omega) D R (by omega) (fun s eb I3 J3 S3 F3 => q_f (by decide) ?_) (fun e o eb I3 J3 E3 => q_t rfl (fun x _ => bad I3 J3 x (hE e o ?_ I3 J3 (((kF_fo f1).trans (kF_fo f2)).kE E3))))
        · refine k_sign S3.1 rfl (by decide) (fun j ej I4 a4 f4 => q_f (by decide) (fun x ex => ?_)) (fun e o ej I4 er4 => q_t rfl (fun x _ => bad I4 J3 x (hE e o ?_ I4 J3 ((((kF_fo f1).trans (kF_fo f2)).trans F3).kE (kE_er er4)))))
          · have e2 : spStmt tx n st = .ok (j, s.2) := by rw [es, eb, exB_ok, ej]; rfl
            have H2 := stmt_ok H' e2
            rw [e2, exB_ok] at hQ hE
            have S4 := KS_fo S3 f4 a4
            rw [ex, nI_1]
            have lt1 := H2.1
            have lt2 := H2.2.1.2.1
            have F4 := (((kF_fo f1).trans (kF_fo f2)).trans F3).trans (kF_fo f4)
            exact ih (c + 1) m' (j, s.2) I4 J3 (by omega) (by omega) (by omega) H2.2 S4 (fun s' e' I' J' S' F' H3 => hQ s' e' I' J' S' (F4.trans F') H3) (fun e o e' I' J' E' => hE e o e' I' J' (F4.kE E'))
          · rw [es, eb, exB_ok, ej]; rfl
        · rw [es, eb]; rfl
      · rw [er] at ek
        unfold spStmt
        rw [ek]
        rfl
end KLP
