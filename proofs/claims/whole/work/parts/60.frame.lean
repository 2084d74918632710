/-! WHAT HOLDS BETWEEN THE CALLS; blocks that move -/
theorem RC_eq {I I' : MI} {J J' : MJ} {b : Nat} {d : Nat → Int32} (C : RC I J b d) (hI : ∀ r, r ≠ 6 → r ≠ 15 → I' b r = I b r) (hJ : ∀ r, J' b r = J b r) : RC I' J' b d := by
  unfold RC RG RK at C ⊢
  rw [hI 0 (by decide) (by decide), hI 1 (by decide) (by decide), hI 2 (by decide) (by decide), hI 3 (by decide) (by decide), hI 4 (by decide) (by decide), hI 5 (by decide) (by decide), hI 7 (by decide) (by decide), hI 8 (by decide) (by decide), hI 9 (by decide) (by decide), hI 11 (by decide) (by decide), hI 13 (by decide) (by decide), hI 14 (by decide) (by decide), hJ 10, hJ 12]
  exact C
theorem RC_blk {I I' : MI} {J J' : MJ} {b : Nat} {d : Nat → Int32} (C : RC I J b d) (hI : I' b = I b) (hJ : J' b = J b) : RC I' J' b d :=
  RC_eq C (fun r _ _ => congrFun hI r) (fun r => congrFun hJ r)
theorem RC_move {I I' : MI} {J J' : MJ} {b g : Nat} {d : Nat → Int32} (W : WF d) (C : RC I J g d)
    (h1 : ∀ i, 3 ≤ i → i ≤ 7 → I' b 1 i = I g 1 i) (h0 : ∀ i, 9 ≤ i → i ≤ 11 → I' b 0 i = I g 0 i) (h2 : I' b 2 2 = I g 2 2) (h3 : ∀ i, i < 6 → I' b 3 i = I g 3 i) (h4 : ∀ i, i < 32 → I' b 4 i = I g 4 i) (h5 : ∀ i, i < (I g 2 2).toNatClampNeg → I' b 5 i = I g 5 i)
    (h7 : ∀ i, i < 240 → I' b 7 i = I g 7 i) (h8 : ∀ i, i < 6 → I' b 8 i = I g 8 i) (h9 : ∀ i, i < 6 → I' b 9 i = I g 9 i) (h11 : ∀ i, i < 6 → I' b 11 i = I g 11 i) (h13 : ∀ i, i < 4 → I' b 13 i = I g 13 i) (h14 : ∀ i, i < 4 → I' b 14 i = I g 14 i)
    (j10 : ∀ i, i < 6 → J' b 10 i = J g 10 i) (j12 : ∀ i, i < 32 → J' b 12 i = J g 12 i) : RC I' J' b d := by
  have b6 := wf_rows W
  have b4 := wf_pls W
  obtain ⟨⟨a0, a1, a2, a3, a4, a5, a6, a7⟩, G, R, P, L, hD, hL, hl, hc, ht⟩ := C
  refine ⟨⟨?_, ?_, ?_, ?_, ?_, ?_, ?_, ?_⟩, fun x y hx hy => ?_, fun r hr => ?_, fun p hp => ?_, L, hD, hL, ?_, fun i hi => ?_, ht⟩
  · rw [h1 3 (by decide) (by decide)]; exact a0
  · rw [h1 4 (by decide) (by decide)]; exact a1
  · rw [h1 5 (by decide) (by decide)]; exact a2
  · rw [h1 6 (by decide) (by decide)]; exact a3
  · rw [h1 7 (by decide) (by decide)]; exact a4
  · rw [h0 9 (by decide) (by decide)]; exact a5
  · rw [h0 11 (by decide) (by decide)]; exact a6
  · rw [h0 10 (by decide) (by decide)]; exact a7
  · rw [h4 _ (by omega), h4 _ (by omega)]; exact G x y hx hy
  · obtain ⟨r1, r2, r3, r4, r5, r6⟩ := R r hr
    have hu := (W.2.2.1 r (by omega)).2.1
    have ht := (W.2.2.1 r (by omega)).1
    refine ⟨?_, ?_, ?_, ?_, ?_, fun t h => ?_⟩
    · rw [h3 r (by omega)]; exact r1
    · rw [h8 r (by omega)]; exact r2
    · rw [h9 r (by omega)]; exact r3
    · rw [h11 r (by omega)]; exact r4
    · rw [j10 r (by omega)]; exact r5
    · rw [h7 _ (by omega)]; exact r6 t h
  · obtain ⟨p1, p2, p3⟩ := P p hp
    have hm := (W.2.2.2 p (by omega)).1
    refine ⟨?_, ?_, fun k hk => ?_⟩
    · rw [h13 p (by omega)]; exact p1
    · rw [h14 p (by omega)]; exact p2
    · rw [j12 _ (by omega)]; exact p3 k hk
  · rw [h2]; exact hl
  · rw [h5 i (by rw [hl, nI_clamp (by omega)]; exact hi)]; exact hc i hi
theorem RC_len {I : MI} {J : MJ} {b : Nat} {d : Nat → Int32} (C : RC I J b d) : ∃ n, n ≤ 600 ∧ I b 2 2 = nI n := by
  obtain ⟨-, -, -, -, L, -, hL, hl, -⟩ := C
  exact ⟨_, hL, hl⟩
theorem RC_over {I : MI} {J : MJ} {b : Nat} {d : Nat → Int32} (W : WF d) (C : RC I J b d) : I b 0 11 = nI (dn d 6) := C.1.2.2.2.2.2.2.1.trans (wf_c W (okc_lo (i := 6) (by decide)))
theorem RC_bo {I : MI} {J : MJ} {b : Nat} {d : Nat → Int32} (W : WF d) (C : RC I J b d) : bo (I b 0 11) := by
  have h : dn d 6 ≤ 1 := W.2.1.2.2.2.2.2.2.1
  rw [RC_over W C]
  rcases (show dn d 6 = 0 ∨ dn d 6 = 1 by omega) with q | q
  · rw [q]; exact bo0
  · rw [q]; exact bo1
/-- the earlier games, the oldest one first -/
def HI (I : MI) (J : MJ) (c nx : Nat) : Prop := c ≤ 8 ∧ nx < 8 ∧ I 12 0 12 = nI c ∧ I 11 2 2 = nI c ∧ I 11 2 1 = nI nx ∧ ∀ k, k < c → WF (I 12 (6 + k)) ∧ LV (I 12 (6 + k)) ∧ RC I J (2 + (nx + 8 - c + k) % 8) (I 12 (6 + k))
/-- the two buffers -/
def BU (I : MI) (n : Nat) : Prop := n ≤ 600 ∧ I 11 0 1 = nI n ∧ I 12 0 2 = nI n ∧ ∀ i, i < n → ∃ v, v < 256 ∧ I 11 1 i = nI v ∧ I 12 1 i = nI v
def INV (I : MI) (J : MJ) : Prop := (WF (I 12 2) ∧ LV (I 12 2) ∧ RC I J 0 (I 12 2)) ∧ (∃ c nx, HI I J c nx) ∧ (∃ n, BU I n) ∧ I 11 0 2 = I 12 0 7
/-- what a call of the class that only asks leaves as it was -/
def fR (I I' : MI) (J J' : MJ) : Prop := (∀ b, b ≠ 0 → b ≠ 1 → b ≠ 11 → I' b = I b) ∧ (∀ r, r ≠ 6 → r ≠ 15 → I' 0 r = I 0 r) ∧ (∀ r, r ≤ 5 → I' 11 r = I 11 r) ∧ ∀ b, b ≠ 1 → J' b = J b
/-- and one of the model -/
def mR (I I' : MI) (J J' : MJ) : Prop := (∀ b, b ≠ 12 → I' b = I b) ∧ I' 12 1 = I 12 1 ∧ I' 12 2 = I 12 2 ∧ (∀ k, k < 8 → I' 12 (6 + k) = I 12 (6 + k)) ∧ (∀ i, i ≠ 0 → I' 12 0 i = I 12 0 i) ∧ ∀ b, b ≠ 12 → J' b = J b
theorem fR.rfl {I : MI} {J : MJ} : fR I I J J := ⟨fun _ _ _ _ => Eq.refl _, fun _ _ _ => Eq.refl _, fun _ _ => Eq.refl _, fun _ _ => Eq.refl _⟩
theorem mR.rfl {I : MI} {J : MJ} : mR I I J J := ⟨fun _ _ => Eq.refl _, Eq.refl _, Eq.refl _, fun _ _ => Eq.refl _, fun _ _ => Eq.refl _, fun _ _ => Eq.refl _⟩
theorem fR.trans {I I' I'' : MI} {J J' J'' : MJ} (h : fR I I' J J') (g : fR I' I'' J' J'') : fR I I'' J J'' :=
  ⟨fun b a1 a2 a3 => (g.1 b a1 a2 a3).trans (h.1 b a1 a2 a3), fun r a1 a2 => (g.2.1 r a1 a2).trans (h.2.1 r a1 a2), fun r a => (g.2.2.1 r a).trans (h.2.2.1 r a), fun b a => (g.2.2.2 b a).trans (h.2.2.2 b a)⟩
theorem mR.trans {I I' I'' : MI} {J J' J'' : MJ} (h : mR I I' J J') (g : mR I' I'' J' J'') : mR I I'' J J'' :=
  ⟨fun b a => (g.1 b a).trans (h.1 b a), g.2.1.trans h.2.1, g.2.2.1.trans h.2.2.1, fun k a => (g.2.2.2.1 k a).trans (h.2.2.2.1 k a), fun i a => (g.2.2.2.2.1 i a).trans (h.2.2.2.2.1 i a), fun b a => (g.2.2.2.2.2 b a).trans (h.2.2.2.2.2 b a)⟩
theorem INV_f {I I' : MI} {J J' : MJ} (V : INV I J) (h : fR I I' J J') : INV I' J' := by
  obtain ⟨⟨W, L, C⟩, ⟨c, nx, hc, hn, a1, a2, a3, H⟩, ⟨n, b1, b2, b3, b4⟩, e⟩ := V
  obtain ⟨f1, f2, f3, f4⟩ := h
  have f12 : I' 12 = I 12 := f1 12 (by decide) (by decide) (by decide)
  refine ⟨⟨?_, ?_, ?_⟩, ⟨c, nx, hc, hn, ?_, ?_, ?_, fun k hk => ?_⟩, ⟨n, b1, ?_, ?_, fun i hi => ?_⟩, ?_⟩
  · rw [f12]; exact W
  · rw [f12]; exact L
  · rw [f12]; exact RC_eq C f2 (fun r => congrFun (f4 0 (by decide)) r)
  · rw [f12]; exact a1
  · rw [f3 2 (by decide)]; exact a2
  · rw [f3 2 (by decide)]; exact a3
  · rw [f12]
    have z := H k hk
    have lt : (nx + 8 - c + k) % 8 < 8 := Nat.mod_lt _ (by decide)
    exact ⟨z.1, z.2.1, RC_blk z.2.2 (f1 _ (by omega) (by omega) (by omega)) (f4 _ (by omega))⟩
  · rw [f3 0 (by decide)]; exact b2
  · rw [f12]; exact b3
  · rw [f12, f3 1 (by decide)]; exact b4 i hi
  · rw [f12, f3 0 (by decide)]; exact e
theorem INV_m {I I' : MI} {J J' : MJ} (V : INV I J) (h : mR I I' J J') : INV I' J' := by
  obtain ⟨⟨W, L, C⟩, ⟨c, nx, hc, hn, a1, a2, a3, H⟩, ⟨n, b1, b2, b3, b4⟩, e⟩ := V
  obtain ⟨f1, f2, f3, f4, f5, f6⟩ := h
  have f11 : I' 11 = I 11 := f1 11 (by decide)
  refine ⟨⟨?_, ?_, ?_⟩, ⟨c, nx, hc, hn, ?_, ?_, ?_, fun k hk => ?_⟩, ⟨n, b1, ?_, ?_, fun i hi => ?_⟩, ?_⟩
  · rw [f3]; exact W
  · rw [f3]; exact L
  · rw [f3]; exact RC_blk C (f1 0 (by decide)) (f6 0 (by decide))
  · rw [f5 12 (by decide)]; exact a1
  · rw [f11]; exact a2
  · rw [f11]; exact a3
  · rw [f4 k (by omega)]
    have z := H k hk
    have lt : (nx + 8 - c + k) % 8 < 8 := Nat.mod_lt _ (by decide)
    exact ⟨z.1, z.2.1, RC_blk z.2.2 (f1 _ (by omega)) (f6 _ (by omega))⟩
  · rw [f11]; exact b2
  · rw [f5 2 (by decide)]; exact b3
  · rw [f11, f2]; exact b4 i hi
  · rw [f11, f5 7 (by decide)]; exact e
theorem tI_m {I : MI} {J : MJ} {v : Int32} : mR I (sI I 12 0 0 v) J J :=
  ⟨fun b h => by funext r; unfold sI; exact rI_ne (fun z => h z.1), sI_ro _ _ _ _ _ (by decide), sI_ro _ _ _ _ _ (by decide), fun k _ => sI_ro _ _ _ _ _ (by omega), fun i h => sI_ot _ _ _ _ h, fun _ _ => Eq.refl _⟩
