/-! A WORD LAID: the class -/
def oJ (b : Nat) (J J' : MJ) : Prop := ∀ b' q, b' ≠ b → J' b' q = J b' q
section LC
variable {I : MI} {J : MJ} {d : Nat → Int32} {b : Nat}
theorem g_layWord {x1 x2 : Int32} {Q : Int32 → MI → MJ → Prop} (W : WF d) (C : RC I J b d) (k r : Nat) (e1 : x1 = nI k) (e2 : x2 = nI r) (hk : k < mMany d (dn d 5)) (hr : r < dn d 0) (hn : mLen d (dn d 5) k ≤ mFree d r)
    (h : ∀ I' J', RC I' J' b (dLay d k r) → oB b I I' → oJ b J J' → Q (nI (mPts d (dn d 5) k r)) I' J') : f_X1_layWord b x1 x2 I J Q := by
  have h6 := wf_rows W
  have hr6 : r < 6 := by omega
  have ht := wf_turn W
  have htp := wf_tp W
  have wt := W.2.2.2 _ ht
  have wr := W.2.2.1 r hr6
  have hu := lay_fit W hr6 hn
  have wd := wrd_hand W ht hk
  have c := C.2.2.1 r hr
  have cp := C.2.2.2.1 _ htp
  have et := e_turn W C
  have c2 : x2.toNatClampNeg = r := cln (by omega) e2
  have v6 : vp_in x2 6 := vin r 6 hr6 (by decide) e2
  have i8 : I b 8 r = nI (mUse d r) := c.2.1.trans (wf_c W (okc_row hr6 (k := 1) (by decide) (by decide)))
  have i9 : I b 9 r = nI (mWds d r) := c.2.2.1.trans (wf_c W (okc_row hr6 (k := 2) (by decide) (by decide)))
  refine g_wordOf W C (dn d 5) k et e1 htp hk (g_pointsFor W C (wA (dn d 5) k + 1) (mLen d (dn d 5) k) r wd rfl e2 hr (g_putLetters wd rfl e2 hr6 (by omega) i8 (fun I7 P => ?_)))
  obtain ⟨p1, p2, p3, p4, p5⟩ := P
  refine ⟨v6, v6, fun I11 e11 => ⟨v6, fun J13 e13 => ⟨v6, fun I15 e15 => ?_⟩⟩⟩
  rw [c2] at e11 e13 e15
  have a7 : ∀ q, q ≠ 7 → q ≠ 8 → I7 b q = I b q := fun q n7 n8 => p5 b q (by omega)
  have a9 : ∀ q, q ≠ 9 → I11 b q = I7 b q := fun q n => by rw [e11]; exact sI_ro _ _ _ _ _ n
  have a11 : ∀ q, q ≠ 11 → I15 b q = I11 b q := fun q n => by rw [e15]; exact sI_ro _ _ _ _ _ n
  have z0 : I15 b 0 = I b 0 := by rw [a11 0 (by decide), a9 0 (by decide), a7 0 (by decide) (by decide)]
  have t15 : I15 b 0 9 = nI (dn d 5) := by rw [z0]; exact et
  have vt : vp_in (I15 b 0 9) 4 := vin (dn d 5) 4 ht (by decide) t15
  refine ⟨vt, vt, fun I18 e18 => ?_⟩
  rw [cln (by omega) t15] at e18
  have a14 : ∀ q, q ≠ 14 → I18 b q = I15 b q := fun q n => by rw [e18]; exact sI_ro _ _ _ _ _ n
  have t18 : I18 b 0 9 = nI (dn d 5) := by rw [a14 0 (by decide)]; exact t15
  have k13 : I18 b 13 = I b 13 := by rw [a14 13 (by decide), a11 13 (by decide), a9 13 (by decide), a7 13 (by decide) (by decide)]
  have i13 : I18 b 13 (dn d 5) = nI (mMany d (dn d 5)) := by rw [k13]; exact e_many W C htp
  refine g_removeWord (t := dn d 5) (k := k) (c := mMany d (dn d 5)) t18 e1 ht hk wt.1 i13 (fun J20 R I21 e21 => ?_)
  obtain ⟨r1, r2, r3⟩ := R
  have a0 : ∀ q, q ≠ 0 → q ≠ 13 → I21 b q = I18 b q := fun q n0 n13 => by rw [e21, sI_ro _ _ _ _ _ n0, sI_ro _ _ _ _ _ n13]
  have y13 : I21 b 13 = sI I18 b 13 (dn d 5) (nI (mMany d (dn d 5) - 1)) b 13 := by rw [e21]; exact sI_ro _ _ _ _ _ (by decide)
  have y7 : I21 b 7 = I7 b 7 := by rw [a0 7 (by decide) (by decide), a14 7 (by decide), a11 7 (by decide), a9 7 (by decide)]
  have y8 : I21 b 8 = I7 b 8 := by rw [a0 8 (by decide) (by decide), a14 8 (by decide), a11 8 (by decide), a9 8 (by decide)]
  have y9 : I21 b 9 = I11 b 9 := by rw [a0 9 (by decide) (by decide), a14 9 (by decide), a11 9 (by decide)]
  have y11 : I21 b 11 = I15 b 11 := by rw [a0 11 (by decide) (by decide), a14 11 (by decide)]
  have y14 : I21 b 14 = I18 b 14 := a0 14 (by decide) (by decide)
  have x14 : I15 b 14 = I b 14 := by rw [a11 14 (by decide), a9 14 (by decide), a7 14 (by decide) (by decide)]
  have x11 : I11 b 11 = I b 11 := by rw [a9 11 (by decide), a7 11 (by decide) (by decide)]
  have x9 : I7 b 9 = I b 9 := a7 9 (by decide) (by decide)
  have x0 : I18 b 0 = I b 0 := by rw [a14 0 (by decide)]; exact z0
  have u0 : sI I18 b 13 (dn d 5) (nI (mMany d (dn d 5) - 1)) b 0 = I b 0 := by rw [sI_ro _ _ _ _ _ (by decide)]; exact x0
  have j0 : J20 b 10 = J13 b 10 := r3 b 10 (by omega)
  have j1 : J13 b 12 = J b 12 := by rw [e13]; unfold sJ; exact rJ_ne (by omega)
  have C4 : RC I21 J20 b (lay4 d k r) := by
    refine RC_lay W C hk hr hn (fun q hq => ?_) ?_ ?_ ?_ (fun j hj => ?_) (fun i hi => ?_) ?_ (fun i hi => ?_) ?_ (fun i hi => ?_) ?_ (fun i hi => ?_) ?_ (fun i hi => ?_) ?_ (fun i hi => ?_) ?_ (fun i hi => ?_) (fun q hq => ?_) (fun q hq hq2 => ?_) (fun i hi => ?_)
    · rw [a0 q (by omega) (by omega), a14 q (by omega), a11 q (by omega), a9 q (by omega), a7 q (by omega) (by omega)]
    · rw [e21, sI_ot _ _ _ _ (by decide), u0]
    · rw [e21, sI_ot _ _ _ _ (by decide), u0]
    · rw [e21, sI_at]
    · rw [y7]; exact p1 j hj
    · rw [y7]; exact p2 i hi
    · rw [y8]; exact p3
    · rw [y8]; exact p4 i hi
    · rw [y9, e11, sI_at, x9, i9, nI_1]
    · rw [y9, e11, sI_ot _ _ _ _ hi, x9]
    · rw [y11, e15, sI_at, a9 0 (by decide), a7 0 (by decide) (by decide)]; exact et
    · rw [y11, e15, sI_ot _ _ _ _ hi, x11]
    · rw [y13, sI_at]
    · rw [y13, sI_ot _ _ _ _ hi, k13]
    · rw [y14, e18, sI_at, x14, cp.2.1]; rfl
    · rw [y14, e18, sI_ot _ _ _ _ hi, x14]
    · rw [j0, e13, sJ_at]
    · rw [j0, e13, sJ_ot _ _ _ _ hi]
    · rw [r2 _ (by omega), j1]
    · rw [r1 q hq (by omega), j1]
    · rw [r2 _ (by omega), j1]
  have W4 := WF_lay4 W hk hr6 hn
  have g4 : oB b I I21 := fun b' q hb => by
    have s1 : I21 b' q = I18 b' q := by rw [e21]; unfold sI; rw [rI_ne (fun z => by omega), rI_ne (fun z => by omega)]
    have s2 : I18 b' q = I15 b' q := by rw [e18]; unfold sI; exact rI_ne (fun z => by omega)
    have s3 : I15 b' q = I11 b' q := by rw [e15]; unfold sI; exact rI_ne (fun z => by omega)
    have s4 : I11 b' q = I7 b' q := by rw [e11]; unfold sI; exact rI_ne (fun z => by omega)
    rw [s1, s2, s3, s4]; exact p5 b' q (fun z => by omega)
  have k4 : oJ b J J20 := fun b' q hb => by
    rw [r3 b' q (fun z => hb z.1), e13]; unfold sJ; exact rJ_ne (fun z => hb z.1)
  have hw := sWords_le W4
  unfold dLay at h
  refine g_wordsOfHands W4 C4 (q_eq (sWords (lay4 d k r)) 0 (by omega) (by decide) rfl rfl (fun q => ?_) (fun q => ?_))
  · rw [if_pos q] at h
    exact g_endTurn W4 C4 true rfl (fun I' C' g' => h I' J20 C' (g4.trans g') k4)
  · rw [if_neg q] at h
    exact g_endTurn W4 C4 false rfl (fun I' C' g' => h I' J20 C' (g4.trans g') k4)
end LC
