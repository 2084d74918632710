/-! THE EARLIER GAMES: kept, and brought back -/
section HK
variable {I : MI} {J : MJ}
/-- behind the class' keep: the ring's place holds d, the numbers go on -/
def kpC (d : Nat → Int32) (c nx : Nat) (I I' : MI) (J J' : MJ) : Prop := RC I' J' (2 + nx) d ∧ (∀ b, b ≠ 2 + nx → b ≠ 11 → I' b = I b) ∧ (∀ r, r ≠ 2 → I' 11 r = I 11 r) ∧ I' 11 2 1 = nI ((nx + 1) % 8) ∧ I' 11 2 2 = nI (if c = 8 then 8 else c + 1) ∧ ∀ b, b ≠ 2 + nx → J' b = J b
theorem k_keep {d : Nat → Int32} {c nx : Nat} {Q : MI → MJ → Prop} (W : WF d) (C : RC I J 0 d) (hc : c ≤ 8) (hn : nx < 8) (ec : I 11 2 2 = nI c) (en : I 11 2 1 = nI nx) (h : ∀ I' J', kpC d c nx I I' J J' → Q I' J') : f_X2_keep 0 I J Q := by
  refine ⟨vin nx 8 hn (by decide) en, ?_⟩
  rw [cln (by omega) en]
  refine g_copyFrom (by omega) W C (fun I1 J1 C1 f1 f2 => ?_)
  have e11 : I1 11 = I 11 := f1 11 (by omega)
  have fin : ∀ (v : Int32) (I2 : MI), v = nI ((nx + 1) % 8) → I2 = sI I1 11 2 1 v → (((8 : Int32) ≤ (I2 11 2 2) → ∀ I3 : MI, I3 = sI I2 11 2 2 (8 : Int32) → Q I3 J1) ∧ (¬ (8 : Int32) ≤ (I2 11 2 2) → ∀ I3 : MI, I3 = sI I2 11 2 2 ((I2 11 2 2) + (1 : Int32)) → Q I3 J1)) := by
    intro v I2 ev e2
    have c2 : I2 11 2 2 = nI c := by rw [e2, sI_ot _ _ _ _ (by decide), e11]; exact ec
    have end3 : ∀ (I3 : MI) (w : Int32), I3 = sI I2 11 2 2 w → w = nI (if c = 8 then 8 else c + 1) → Q I3 J1 := by
      intro I3 w e3 ew
      have o3 : ∀ b, b ≠ 11 → I3 b = I1 b := fun b hb => by
        funext r
        rw [e3, e2]
        unfold sI
        rw [rI_ne (fun z => hb z.1), rI_ne (fun z => hb z.1)]
      refine h I3 J1 ⟨RC_blk C1 (o3 _ (by omega)) (Eq.refl _), fun b h1 h2 => by rw [o3 b h2, f1 b h1], fun r hr => ?_, ?_, ?_, f2⟩
      · rw [e3, sI_ro _ _ _ _ _ hr, e2, sI_ro _ _ _ _ _ hr, e11]
      · rw [e3, sI_ot _ _ _ _ (by decide), e2, sI_at]; exact ev
      · rw [e3, sI_at]; exact ew
    rw [c2]
    refine q_le 8 c (by decide) (by omega) rfl rfl (fun q I3 e3 => end3 I3 8 e3 ?_) (fun q I3 e3 => end3 I3 _ e3 ?_)
    · rw [if_pos (by omega)]; rfl
    · rw [if_neg (by omega), nlit 1, nI_add]
  have n1 : I1 11 2 1 = nI nx := by rw [e11]; exact en
  rw [n1, nlit 1, nI_add]
  refine q_le 8 (nx + 1) (by decide) (by omega) rfl rfl (fun q => fun I2 e2 => fin _ I2 ?_ e2) (fun q => fun I2 e2 => fin _ I2 ?_ e2)
  · rw [show (nx + 1) % 8 = 0 by omega]; rfl
  · rw [show (nx + 1) % 8 = nx + 1 by omega]
/-- behind the model's remember -/
def kpM (c : Nat) (I I' : MI) : Prop := (∀ b, b ≠ 12 → I' b = I b) ∧ I' 12 1 = I 12 1 ∧ I' 12 2 = I 12 2 ∧ I' 12 3 = I 12 3 ∧ (∀ i, i ≠ 12 → I' 12 0 i = I 12 0 i) ∧ I' 12 0 12 = nI (if c = 8 then 8 else c + 1) ∧
  (c < 8 → eqd (I 12 2) (I' 12 (6 + c)) ∧ ∀ k, k < c → I' 12 (6 + k) = I 12 (6 + k)) ∧ (c = 8 → eqd (I 12 2) (I' 12 13) ∧ ∀ k, k < 7 → eqd (I 12 (6 + k + 1)) (I' 12 (6 + k)))
/-- the shift: the first k - 1 are in their new places -/
def shP (I : MI) (k : Nat) (s : MI) : Prop := (∀ b, b ≠ 12 → s b = I b) ∧ (∀ r, r < 6 → s 12 r = I 12 r) ∧ (∀ q, q + 1 < k → eqd (I 12 (6 + q + 1)) (s 12 (6 + q))) ∧ ∀ q, k ≤ q + 1 → q < 8 → s 12 (6 + q) = I 12 (6 + q)
theorem m_rem53 {c : Nat} {Q : MI → MJ → Prop} (hc : c < 8) (ec : I 12 0 12 = nI c) (h : ∀ I', (∀ b, b ≠ 12 → I' b = I b) → (∀ r, r ≠ 0 → r ≠ 6 + c → I' 12 r = I 12 r) → (∀ i, i ≠ 12 → I' 12 0 i = I 12 0 i) → I' 12 0 12 = nI (c + 1) → eqd (I 12 2) (I' 12 (6 + c)) → Q I' J) : f_X8_remember_J53 Q I J := by
  refine ⟨vin c 8 hc (by decide) ec, ?_⟩
  rw [cln (by omega) ec]
  refine m_copy (n := 1802) rfl (by omega) (by decide) (by decide) (by decide) (by decide) (fun I7 e7 => ?_)
  refine h I7 (fun b hb => ?_) (fun r h0 h6 => ?_) (fun i hi => ?_) ?_ ?_
  · funext r
    rw [e7]
    unfold sI
    rw [rI_ne (fun z => hb z.1), rI_ne (fun z => hb z.1)]
  · rw [e7, sI_ro _ _ _ _ _ h0, rI_ne (fun z => h6 z.2)]
  · rw [e7, sI_ot _ _ _ _ hi, rI_ne (by omega)]
  · rw [e7, sI_at, rI_ne (by omega), ec, nlit 1, nI_add]
  · rw [e7, sI_ro _ _ _ _ _ (by omega), rI_same]; exact eqd_cpd _ _
theorem m_remember {c : Nat} {Q : MI → MJ → Prop} (hc : c ≤ 8) (ec : I 12 0 12 = nI c) (h : ∀ I', kpM c I I' → Q I' J) : f_X8_remember I J Q := by
  refine q_eq c 8 (by omega) (by decide) ec rfl (fun q => ?_) (fun q => ?_)
  · subst q
    refine ⟨8 - 1 + 1, up_invF (fun m (s : MI) j => f_X8_remember_L11 _ m j s J) (fun k s => shP I k s) 1 8 (by decide) (fun m s hs => ?_) (fun m s i h1 hi hs ih => ?_) I ⟨fun _ _ => Eq.refl _, fun _ _ => Eq.refl _, fun q hq => absurd hq (by omega), fun _ _ _ => Eq.refl _⟩⟩
    · show f_X8_remember_B11 _ _ _ _ J
      refine q_t (Int32.le_refl _) (fun I9 e9 => ?_)
      obtain ⟨s1, s2, s3, s4⟩ := hs
      have c9 : I9 12 0 12 = nI 7 := by rw [e9, sI_at, s2 0 (by decide), ec]; decide +kernel
      have o9 : ∀ b, b ≠ 12 → I9 b = s b := fun b hb => by
        funext r
        rw [e9]
        unfold sI
        exact rI_ne (fun z => hb z.1)
      have r9 : ∀ r, r ≠ 0 → I9 12 r = s 12 r := fun r hr => by rw [e9]; exact sI_ro _ _ _ _ _ hr
      refine m_rem53 (c := 7) (by decide) c9 (fun I' a1 a2 a3 a4 a5 => h I' ⟨fun b hb => ?_, ?_, ?_, ?_, fun i hi => ?_, a4, fun z => absurd z (by decide), fun _ => ⟨?_, fun k hk => ?_⟩⟩)
      · rw [a1 b hb, o9 b hb, s1 b hb]
      · rw [a2 1 (by decide) (by decide), r9 1 (by decide), s2 1 (by decide)]
      · rw [a2 2 (by decide) (by decide), r9 2 (by decide), s2 2 (by decide)]
      · rw [a2 3 (by decide) (by decide), r9 3 (by decide), s2 3 (by decide)]
      · rw [a3 i hi, e9, sI_ot _ _ _ _ hi, s2 0 (by decide)]
      · rw [r9 2 (by decide), s2 2 (by decide)] at a5
        exact a5
      · rw [a2 (6 + k) (by omega) (by omega), r9 _ (by omega)]
        exact s3 k (by omega)
    · show f_X8_remember_B11 _ _ _ _ J
      obtain ⟨s1, s2, s3, s4⟩ := hs
      have e1 : nI i - (1 : Int32) = nI (i - 1) := by rw [nlit 1]; exact nsub h1
      refine q_f (nge hi (by decide)) ⟨vin i 8 hi (by decide) rfl, vin (i - 1) 8 (by omega) (by decide) e1, ?_⟩
      rw [cln (by omega) e1, nI_clamp (by omega)]
      refine m_copy (n := 1802) rfl (by omega) (by decide) (by decide) (by decide) (by decide) (fun j ej => ih _ j ⟨fun b hb => ?_, fun r hr => ?_, fun q hq => ?_, fun q hq h8 => ?_⟩ (by rw [ej, nI_1]))
      · funext r
        rw [rI_ne (fun z => hb z.1), s1 b hb]
      · rw [rI_ne (by omega), s2 r hr]
      · by_cases z : q + 1 = i
        · have : q = i - 1 := by omega
          subst this
          rw [rI_same, s4 i (by omega) hi, show 6 + (i - 1) + 1 = 6 + i by omega]
          exact eqd_cpd _ _
        · rw [rI_ne (by omega)]
          exact s3 q (by omega)
      · rw [rI_ne (by omega)]
        exact s4 q (by omega) h8
  · refine m_rem53 (by omega) ec (fun I' a1 a2 a3 a4 a5 => h I' ⟨a1, a2 1 (by decide) (by omega), a2 2 (by decide) (by omega), a2 3 (by decide) (by omega), a3, by rw [if_neg q]; exact a4, fun _ => ⟨a5, fun k hk => a2 _ (by omega) (by omega)⟩, fun z => absurd z q⟩)
/-- the same, the game itself changed or not -/
def kcC (d : Nat → Int32) (c nx : Nat) (I I' : MI) (J J' : MJ) : Prop := RC I' J' (2 + nx) d ∧ (∀ b, b ≠ 0 → b ≠ 2 + nx → b ≠ 11 → I' b = I b) ∧ (∀ r, r ≠ 2 → I' 11 r = I 11 r) ∧ I' 11 2 1 = nI ((nx + 1) % 8) ∧ I' 11 2 2 = nI (if c = 8 then 8 else c + 1) ∧ ∀ b, b ≠ 0 → b ≠ 2 + nx → J' b = J b
def kpH (c : Nat) (I I' : MI) : Prop := I' 12 0 12 = nI (if c = 8 then 8 else c + 1) ∧
  (c < 8 → eqd (I 12 2) (I' 12 (6 + c)) ∧ ∀ k, k < c → I' 12 (6 + k) = I 12 (6 + k)) ∧ (c = 8 → eqd (I 12 2) (I' 12 13) ∧ ∀ k, k < 7 → eqd (I 12 (6 + k + 1)) (I' 12 (6 + k)))
def mcF (I I' : MI) : Prop := (∀ b, b ≠ 12 → I' b = I b) ∧ I' 12 1 = I 12 1 ∧ ∀ i, i ≠ 0 → i ≠ 12 → I' 12 0 i = I 12 0 i
theorem kc_of {d : Nat → Int32} {c nx : Nat} {I1 I2 : MI} {J1 J2 : MJ} (k : kpC d c nx I I1 J J1) (hI : ∀ b, b ≠ 0 → I2 b = I1 b) (hJ : ∀ b, b ≠ 0 → J2 b = J1 b) : kcC d c nx I I2 J J2 := by
  obtain ⟨b1, b2, b3, b4, b5, b6⟩ := k
  have i11 : I2 11 = I1 11 := hI 11 (by decide)
  exact ⟨RC_blk b1 (hI _ (by omega)) (hJ _ (by omega)), fun b h0 h1 h2 => by rw [hI b h0, b2 b h1 h2], fun r hr => by rw [i11, b3 r hr], by rw [i11]; exact b4, by rw [i11]; exact b5, fun b h0 h1 => by rw [hJ b h0, b6 b h1]⟩
/-- both have kept the game: what is kept goes on to stand for the same -/
theorem HI_keep {I1 I2 : MI} {J1 J2 : MJ} {c nx : Nat} (W : WF (I 12 2)) (V : LV (I 12 2)) (H : HI I J c nx) (k1 : kcC (I 12 2) c nx I I1 J J1) (k2 : kpH c I1 I2) (d1 : ∀ b, b ≠ 12 → I2 b = I1 b) (hJ : ∀ b, b ≠ 12 → J2 b = J1 b) : HI I2 J2 (if c = 8 then 8 else c + 1) ((nx + 1) % 8) := by
  obtain ⟨hc, hn, a1, a2, a3, H⟩ := H
  obtain ⟨b1, b2, b3, b4, b5, b6⟩ := k1
  obtain ⟨d6, d7, d8⟩ := k2
  have i12 : I1 12 = I 12 := b2 12 (by decide) (by omega) (by decide)
  have lt : (nx + 1) % 8 < 8 := Nat.mod_lt _ (by decide)
  have lc : (if c = 8 then 8 else c + 1) ≤ 8 := by split <;> omega
  refine ⟨lc, lt, d6, ?_, ?_, fun k hk => ?_⟩
  · rw [d1 11 (by decide)]; exact b5
  · rw [d1 11 (by decide)]; exact b4
  · have new : ∀ e, eqd (I 12 2) e → WF e ∧ LV e ∧ RC I2 J2 (2 + nx) e := fun e z => HI_row ⟨W, V, b1⟩ z (Eq.refl _) (d1 _ (by omega)) (hJ _ (by omega))
    by_cases q : c = 8
    · subst q
      rw [if_pos (Eq.refl 8)] at hk ⊢
      obtain ⟨e1, e2⟩ := d8 (Eq.refl 8)
      rw [i12] at e1
      by_cases z : k = 7
      · subst z
        rw [show ((nx + 1) % 8 + 8 - 8 + 7) % 8 = nx by omega]
        exact new _ e1
      · have g := H (k + 1) (by omega)
        have e3 := e2 k (by omega)
        rw [i12] at e3
        have hb : (nx + 8 - 8 + (k + 1)) % 8 ≠ nx := by omega
        have lt2 : (nx + 8 - 8 + (k + 1)) % 8 < 8 := Nat.mod_lt _ (by decide)
        exact HI_row g e3 (by omega) (by rw [d1 _ (by omega), b2 _ (by omega) (by omega) (by omega)]) (by rw [hJ _ (by omega), b6 _ (by omega) (by omega)])
    · rw [if_neg q] at hk ⊢
      obtain ⟨e1, e2⟩ := d7 (by omega)
      rw [i12] at e1
      by_cases z : k = c
      · subst z
        rw [show ((nx + 1) % 8 + 8 - (k + 1) + k) % 8 = nx by omega]
        exact new _ e1
      · have g := H k (by omega)
        have hb : (nx + 8 - c + k) % 8 ≠ nx := by omega
        have lt2 : (nx + 8 - c + k) % 8 < 8 := Nat.mod_lt _ (by decide)
        rw [e2 k (by omega), i12]
        exact HI_row g (fun _ _ => Eq.refl _) (by omega) (by rw [d1 _ (by omega), b2 _ (by omega) (by omega) (by omega)]) (by rw [hJ _ (by omega), b6 _ (by omega) (by omega)])
/-- a change, seen from its end -/
theorem INV_change {I1 I2 : MI} {J1 J2 : MJ} {c nx : Nat} (W : WF (I 12 2)) (V : LV (I 12 2)) (H : HI I J c nx) (k1 : kcC (I 12 2) c nx I I1 J J1) (k2 : kpH c I1 I2) (d1 : ∀ b, b ≠ 12 → I2 b = I1 b) (hJ : ∀ b, b ≠ 12 → J2 b = J1 b)
    (W' : WF (I2 12 2)) (V' : LV (I2 12 2)) (C' : RC I1 J1 0 (I2 12 2)) (B' : ∃ n, BU I2 n) (e' : I2 11 0 2 = I2 12 0 7) : INV I2 J2 :=
  ⟨⟨W', V', RC_blk C' (d1 0 (by decide)) (hJ 0 (by decide))⟩, ⟨_, _, HI_keep W V H k1 k2 d1 hJ⟩, B', e'⟩
/-- the buffers and the offset of the error stay -/
theorem BU_keep {I1 I2 : MI} {J1 : MJ} {d : Nat → Int32} {c nx n : Nat} (hn : nx < 8) (B : BU I n) (k1 : kcC d c nx I I1 J J1) (m : mcF I1 I2) : ∃ n, BU I2 n := by
  obtain ⟨b1, b2, b3, b4⟩ := B
  have i12 : I1 12 = I 12 := k1.2.1 12 (by decide) (by omega) (by decide)
  have i11 : I2 11 = I1 11 := m.1 11 (by decide)
  refine ⟨n, b1, ?_, ?_, fun i hi => ?_⟩
  · rw [i11, k1.2.2.1 0 (by decide)]; exact b2
  · rw [m.2.2 2 (by decide) (by decide), i12]; exact b3
  · rw [i11, k1.2.2.1 1 (by decide), m.2.1, i12]; exact b4 i hi
theorem er_keep {I1 I2 : MI} {J1 : MJ} {d : Nat → Int32} {c nx : Nat} (hn : nx < 8) (e : I 11 0 2 = I 12 0 7) (k1 : kcC d c nx I I1 J J1) (m : mcF I1 I2) : I2 11 0 2 = I2 12 0 7 := by
  have i12 : I1 12 = I 12 := k1.2.1 12 (by decide) (by omega) (by decide)
  have i11 : I2 11 = I1 11 := m.1 11 (by decide)
  rw [i11, k1.2.2.1 0 (by decide), m.2.2 7 (by decide) (by decide), i12]
  exact e
end HK
