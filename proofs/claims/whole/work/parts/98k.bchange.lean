/-! LAY, PASS, AUTO: both sides -/
theorem c_rng {T F : Prop} {x a c : Int32} {lo hi : Nat} (hh : hi < 2 ^ 31) (hl : lo < 2 ^ 31) (ea : a = nI lo) (ec : c = nI hi) (f : ∀ k, lo ≤ k → k ≤ hi → x = nI k → F) (g : (∀ k, lo ≤ k → k ≤ hi → x ≠ nI k) → T) : (x < a → T) ∧ (¬ x < a → ((x ≤ c → F) ∧ (¬ x ≤ c → T))) := by
  have zl : a.toInt = lo := by rw [ea, nI_toInt hl]
  have zh : c.toInt = hi := by rw [ec, nI_toInt hh]
  have no : (x < a ∨ ¬ x ≤ c) → ∀ k, lo ≤ k → k ≤ hi → x ≠ nI k := fun h k h1 h2 e => by
    have zk : x.toInt = k := by rw [e, nI_toInt (by omega)]
    rw [Int32.lt_iff_toInt_lt, Int32.le_iff_toInt_le] at h
    omega
  refine ⟨fun w => g (no (Or.inl w)), fun w => ⟨fun q => ?_, fun q => g (no (Or.inr q))⟩⟩
  rw [Int32.lt_iff_toInt_lt] at w
  rw [Int32.le_iff_toInt_le] at q
  exact f x.toInt.toNat (by omega) (by omega) (i_toInt (by omega))
theorem m_rng {I : MI} {J : MJ} {x a c : Int32} {lo hi : Nat} {Q : Int32 → MI → MJ → Prop} (hh : hi < 2 ^ 31) (hl : lo < 2 ^ 31) (ea : a = nI lo) (ec : c = nI hi) (h1 : ∀ k, lo ≤ k → k ≤ hi → x = nI k → Q 1 I J) (h0 : (∀ k, lo ≤ k → k ≤ hi → x ≠ nI k) → Q 0 I J) : f_X8_in x a c I J Q := by
  have z := c_rng (T := Q 0 I J) (F := Q 1 I J) hh hl ea ec h1 h0
  exact ⟨z.1, fun w => ⟨fun q => (z.2 w).2 (Int32.not_le.mpr q), fun q => (z.2 w).1 (Int32.not_lt.mp q)⟩⟩
section MCH
variable {I : MI} {J : MJ} {c : Nat}
/-- behind a change of the model: the earlier games shifted, the data replaced, nothing thrown -/
def mD (c : Nat) (d' : Nat → Int32) (I I' : MI) (J J' : MJ) : Prop := ∃ It, mT 0 I It J J ∧ kpH c It I' ∧ mcF It I' ∧ I' 12 0 0 = 0 ∧ I' 12 2 = d' ∧ sJ2 J J'
theorem mD_of {d' : Nat → Int32} {It Ik : MI} {J' : MJ} (t : mT 0 I It J J) (kk : kpM c It Ik) (hJ : sJ2 J J') : mD c d' I (rI Ik 12 2 d') J J' := by
  have z := kp_put (d' := d') kk
  refine ⟨It, t, z.1, z.2, ?_, rI_same _ _ _ _, hJ⟩
  rw [rI_ne (by omega), kk.2.2.2.2.1 0 (by decide)]
  exact t.2
theorem sJ2_rfl : sJ2 J J := fun _ _ _ => rfl
theorem mc_lay {x y : Int32} {Q : Int32 → MI → MJ → Prop} (W : WF (I 12 2)) (hc : c ≤ 8) (ec : I 12 0 12 = nI c)
    (h : ∀ k r, k < mMany (I 12 2) (dn (I 12 2) 5) → x = nI k → r < dn (I 12 2) 0 → y = nI r → mRef (I 12 2) k r = 0 → ∀ I', mD c (dLay (I 12 2) k r) I I' J J → Q (nI (mPts (I 12 2) (dn (I 12 2) 5) k r)) I' J)
    (g1 : (∀ k, k < mMany (I 12 2) (dn (I 12 2) 5) → x ≠ nI k) → ∀ I', mT 1 I I' J J → Q 0 I' J) (g2 : ∀ k, k < mMany (I 12 2) (dn (I 12 2) 5) → x = nI k → (∀ r, r < dn (I 12 2) 0 → y ≠ nI r) → ∀ I', mT 1 I I' J J → Q 0 I' J)
    (g3 : ∀ k r, k < mMany (I 12 2) (dn (I 12 2) 5) → x = nI k → r < dn (I 12 2) 0 → y = nI r → mRef (I 12 2) k r ≠ 0 → ∀ I', mT 2 I I' J J → Q 0 I' J) : f_X8_lay x y I J Q := by
  intro I1 e1
  have t := mT_0 (J := J) e1
  have ec1 : I1 12 0 12 = nI c := (t.1.2.2.2.2.1 12 (by decide)).trans ec
  rw [← t.d] at W h g1 g2 g3
  have b6 := wf_rows W
  refine m_noPlay W t.2 (fun k r hk ek hr er => q_t rfl ?_) (fun z => q_f (by decide) (g1 z _ (t.put 1))) (fun k hk ek z => q_f (by decide) (g2 k hk ek z _ (t.put 1)))
  have r6 : r < 6 := by omega
  have lt := mRef_lt (I1 12 2) k r
  refine m_refusal W k r ek er hk r6 (q_eq (mRef (I1 12 2) k r) 0 (by omega) (by decide) rfl rfl (fun q => m_good0 t.2 (q_t rfl (m_remember hc ec1 (fun Ik kk => ?_)))) (fun q => m_bad1 (by decide) t.2 (by decide) (q_f (by decide) (g3 k r hk ek hr er q _ (t.put 2)))))
  have e : Ik 12 2 = I1 12 2 := kk.2.2.1
  have z := h k r hk ek hr er q _ (mD_of (d' := dLay (I1 12 2) k r) t kk sJ2_rfl)
  rw [← e] at z hk W
  exact m_layNow W k r ek er hk r6 (by rw [e]; exact mRef_fit q) z
theorem mc_pass {Q : Int32 → MI → MJ → Prop} (W : WF (I 12 2)) (V : LV (I 12 2)) (hc : c ≤ 8) (ec : I 12 0 12 = nI c)
    (h : dn (I 12 2) 6 = 0 → ∀ I', mD c (dPass (I 12 2)) I I' J J → Q (dPass (I 12 2) 5) I' J) (g : dn (I 12 2) 6 = 1 → ∀ I', mT 1 I I' J J → Q 0 I' J) : f_X8_pass I J Q := by
  intro I1 e1
  have t := mT_0 (J := J) e1
  have ec1 : I1 12 0 12 = nI c := (t.1.2.2.2.2.1 12 (by decide)).trans ec
  rw [← t.d] at W V h g
  have b6 : dn (I1 12 2) 6 ≤ 1 := W.2.1.2.2.2.2.2.2.1
  have c6 : (6 : Int32).toNatClampNeg = 6 := by decide
  have c5 : (5 : Int32).toNatClampNeg = 5 := by decide
  refine ⟨vin 6 1802 (by decide) (by decide) rfl, ?_⟩
  rw [c6]
  refine q_eq (dn (I1 12 2) 6) 1 (by omega) (by decide) (wf_c W (okc_lo (i := 6) (by decide))) rfl (fun q => m_bad1 (by decide) t.2 (by decide) (q_f (by decide) (g q _ (t.put 1)))) (fun q => m_good0 t.2 (q_t rfl (m_remember hc ec1 (fun Ik kk => ?_))))
  have e : Ik 12 2 = I1 12 2 := kk.2.2.1
  have z := h (by omega) _ (mD_of (d' := dPass (I1 12 2)) t kk sJ2_rfl)
  have hq := V (by omega)
  rw [← e] at z W hq
  refine m_passNow W ⟨vin 5 1802 (by decide) (by decide) rfl, ?_⟩ hq
  rw [c5, rI_same]
  exact z
theorem mc_auto {x : Int32} {L : List TK} {Q : Int32 → MI → MJ → Prop} (W : WF (I 12 2)) (V : LV (I 12 2)) (T : mTok (I 12 2) L) (hc : c ≤ 8) (ec : I 12 0 12 = nI c)
    (h : ∀ n, 1 ≤ n → n ≤ 50 → x = nI n → ∀ I' J', mD c (gon L n 165 (I 12 2) 0).1 I I' J J' → Q (nI (gon L n 165 (I 12 2) 0).2) I' J') (g : (∀ n, 1 ≤ n → n ≤ 50 → x ≠ nI n) → ∀ I', mT 1 I I' J J → Q 0 I' J) : f_X8_auto x I J Q := by
  intro I1 e1
  have t := mT_0 (J := J) e1
  have ec1 : I1 12 0 12 = nI c := (t.1.2.2.2.2.1 12 (by decide)).trans ec
  rw [← t.d] at W V T h
  refine m_rng (lo := 1) (hi := 50) (by decide) (by decide) rfl rfl (fun n h1 h2 en => q_f (by decide) (m_good0 t.2 (q_t rfl (m_remember hc ec1 (fun Ik kk => ?_))))) (fun z => q_t rfl (m_bad1 (by decide) t.2 (by decide) (q_f (by decide) (g z _ (t.put 1)))))
  have e : Ik 12 2 = I1 12 2 := kk.2.2.1
  have z := fun J2 (hJ : sJ2 J J2) => h n h1 h2 en _ J2 (mD_of (d' := (gon L n 165 (I1 12 2) 0).1) t kk hJ)
  rw [← e] at z W V T
  exact m_goOn en (by omega) W T V (fun J2 hJ => z J2 hJ)
end MCH
section BCH
variable {I : MI} {J : MJ}
/-- a change on both sides -/
theorem INV_D {I1 I2 : MI} {J1 J2 : MJ} {c nx : Nat} {d' : Nat → Int32} (V : INV I J) (H : HI I J c nx) (k1 : kcC (I 12 2) c nx I I1 J J1) (m : mD c d' I1 I2 J1 J2) (W' : WF d') (V' : LV d') (C' : RC I1 J1 0 d') : INV I2 J2 := by
  obtain ⟨It, t, k2, m2, -, e, hJ⟩ := m
  subst e
  exact INV_chg V H k1 It t.1 k2 m2 (sJ2_12 hJ) W' V' C'
/-- the start, with the law's row as it is now -/
def x13 (J J2 : MJ) : MJ := fun b => if b = 13 then J2 13 else J b
theorem x13_o {J J2 : MJ} {b : Nat} (h : b ≠ 13) : x13 J J2 b = J b := if_neg h
theorem HI_13 {I : MI} {J J2 : MJ} {c nx : Nat} (H : HI I J c nx) : HI I (x13 J J2) c nx := by
  obtain ⟨hc, hn, a1, a2, a3, H⟩ := H
  refine ⟨hc, hn, a1, a2, a3, fun k hk => ?_⟩
  have lt : (nx + 8 - c + k) % 8 < 8 := Nat.mod_lt _ (by decide)
  exact ⟨(H k hk).1, (H k hk).2.1, RC_blk (H k hk).2.2 rfl (x13_o (by omega))⟩
theorem kc_13 {d : Nat → Int32} {c nx : Nat} {I I1 : MI} {J J1 J2 : MJ} (hn : nx < 8) (k : kcC d c nx I I1 J J1) (e : J13 J1 J2) : kcC d c nx I I1 (x13 J J2) J2 := by
  obtain ⟨b1, b2, b3, b4, b5, b6⟩ := k
  refine ⟨RC_blk b1 rfl (e _ (by omega)), b2, b3, b4, b5, fun b h0 h1 => ?_⟩
  by_cases q : b = 13
  · rw [q]; exact (if_pos rfl).symm
  · rw [x13_o q, e b q, b6 b h0 h1]
theorem INV_DG {I1 I2 : MI} {J1 J2 J3 : MJ} {c nx : Nat} {d' : Nat → Int32} (V : INV I J) (H : HI I J c nx) (k1 : kcC (I 12 2) c nx I I1 J J1) (e : J13 J1 J2) (m : mD c d' I1 I2 J2 J3) (W' : WF d') (V' : LV d') (C' : RC I1 J1 0 d') : INV I2 J3 ∧ J3 13 = J2 13 :=
  ⟨INV_D (INV_13 V (J2 := x13 J J2) (fun b h => x13_o h)) (HI_13 H) (kc_13 H.2.1 k1 e) m W' V' (RC_blk C' rfl (e 0 (by decide))), sJ2_12 m.choose_spec.2.2.2.2.2 13 (by decide)⟩
theorem b_lay {x y : Int32} (V : INV I J) : f_X7_lay x y I J (AG (f_X8_lay x y)) (XR [1, 3] (f_X8_lay x y)) := by
  obtain ⟨⟨W, Lv, C⟩, ⟨c, nx, H⟩, -⟩ := id V
  obtain ⟨hc, hn, ec, a2, a3, -⟩ := id H
  have b6 := wf_rows W
  have t5 : dn (I 12 2) 5 < dn (I 12 2) 1 := W.2.1.2.2.2.2.2.1
  have m8 := (W.2.2.2 _ (wf_turn W)).1
  refine k_place W C (e_turn W C) t5 (fun k hk ek => ?_) (fun z => ⟨0, rfl, mc_lay W hc ec (fun k r hk ek => absurd ek (z k hk)) (fun _ I' t => bad_of (by decide +kernel) ⟨t.2, INV_m V t.1⟩) (fun k hk ek => absurd ek (z k hk)) (fun k r hk ek => absurd ek (z k hk))⟩)
  refine k_row W C (fun r hr er => ?_) (fun z => ⟨0, rfl, mc_lay W hc ec (fun k' r hk' ek' hr er => absurd er (z r hr)) (fun z2 => absurd ek (z2 k hk)) (fun _ _ _ _ I' t => bad_of (by decide +kernel) ⟨t.2, INV_m V t.1⟩) (fun k' r hk' ek' hr er => absurd er (z r hr))⟩)
  have lt := mRef_lt (I 12 2) k r
  have same : ∀ k' r', k' < mMany (I 12 2) (dn (I 12 2) 5) → x = nI k' → r' < dn (I 12 2) 0 → y = nI r' → k' = k ∧ r' = r := fun k' r' h1 e1 h2 e2 => ⟨nij e1 ek (by omega) (by omega), nij e2 er (by omega) (by omega)⟩
  refine g_obstacleNow W C k r ek er hk hr (q_eq (mRef (I 12 2) k r) 0 (by omega) (by decide) rfl rfl (fun q => ?_) (fun q => ⟨1, rfl, mc_lay W hc ec (fun k' r' hk' ek' hr' er' q' => ?_) (fun z => absurd ek (z k hk)) (fun k' hk' ek' z => absurd er (z r hr)) (fun _ _ _ _ _ _ _ I' t => bad_of (by decide +kernel) ⟨t.2, INV_m V t.1⟩)⟩))
  · refine k_layC W C hc hn a2 a3 k r ek er hk hr (mRef_fit q) (fun I1 J1 k1 C1 J9 e9 e10 => ?_)
    have i12 : I1 12 = I 12 := k1.2.1 12 (by decide) (by omega) (by decide)
    refine mc_lay (c := c) (by rw [i12]; exact W) hc (by rw [i12]; exact ec) (fun k' r' hk' ek' hr' er' q' I2 m => ?_) (fun z => absurd ek (z k (by rw [i12]; exact hk))) (fun k' hk' ek' z => absurd er (z r (by rw [i12]; exact hr))) (fun k' r' hk' ek' hr' er' q' => ?_)
    · rw [i12] at hk' hr' m ⊢
      obtain ⟨s1, s2⟩ := same k' r' hk' ek' hr' er'
      subst s1 s2
      exact post_of e10 ⟨m.choose_spec.2.2.2.1, rfl, (INV_DG V H k1 e9 m (WF_dLay W hk hr (mRef_fit q)) (LV_lay W hk hr (mRef_fit q)) C1).1, (INV_DG V H k1 e9 m (WF_dLay W hk hr (mRef_fit q)) (LV_lay W hk hr (mRef_fit q)) C1).2⟩
    · rw [i12] at hk' hr' q'
      obtain ⟨s1, s2⟩ := same k' r' hk' ek' hr' er'
      subst s1 s2
      exact absurd q q'
  · obtain ⟨s1, s2⟩ := same k' r' hk' ek' hr' er'
    subst s1 s2
    exact absurd q' q
theorem b_pass (V : INV I J) : f_X7_pass I J (AG (f_X8_pass)) (XR [3] f_X8_pass) := by
  obtain ⟨⟨W, Lv, C⟩, ⟨c, nx, H⟩, -⟩ := id V
  obtain ⟨hc, hn, ec, a2, a3, -⟩ := id H
  have b6 : dn (I 12 2) 6 ≤ 1 := W.2.1.2.2.2.2.2.2.1
  refine q_eq (dn (I 12 2) 6) 0 (by omega) (by decide) (RC_over W C) rfl (fun q => ?_) (fun q => ⟨0, rfl, mc_pass W Lv hc ec (fun z => absurd z q) (fun _ I' t => bad_of (by decide +kernel) ⟨t.2, INV_m V t.1⟩)⟩)
  refine k_passC W C hc hn a2 a3 (Lv q) (fun I1 J1 k1 C1 J9 e9 e10 => ?_)
  have i12 : I1 12 = I 12 := k1.2.1 12 (by decide) (by omega) (by decide)
  refine mc_pass (c := c) (by rw [i12]; exact W) (by rw [i12]; exact Lv) hc (by rw [i12]; exact ec) (fun _ I2 m => ?_) (fun z => ?_)
  · rw [i12] at m ⊢
    exact post_of e10 ⟨m.choose_spec.2.2.2.1, C1.1.2.2.2.2.2.1, (INV_DG V H k1 e9 m (WF_pass W (Lv q)) (LV_pass W (Lv q)) C1).1, (INV_DG V H k1 e9 m (WF_pass W (Lv q)) (LV_pass W (Lv q)) C1).2⟩
  · rw [i12] at z
    omega
theorem b_auto {x : Int32} (V : INV I J) : f_X7_auto x I J (AG (f_X8_auto x)) (XR [0] (f_X8_auto x)) := by
  obtain ⟨⟨W, Lv, C⟩, ⟨c, nx, H⟩, -⟩ := id V
  obtain ⟨hc, hn, ec, a2, a3, -⟩ := id H
  obtain ⟨L0, T0, -⟩ := RK_tok C.2.2.2.2
  have bad : (∀ k, 1 ≤ k → k ≤ 50 → x ≠ nI k) → XR [0] (f_X8_auto x) 0 I J := fun z => ⟨0, rfl, mc_auto W Lv T0 hc ec (fun n h1 h2 en => absurd en (z n h1 h2)) (fun _ I' t => bad_of (by decide +kernel) ⟨t.2, INV_m V t.1⟩)⟩
  refine c_rng (lo := 1) (hi := 50) (by decide) (by decide) rfl rfl (fun n h1 h2 en => ?_) bad
  refine k_autoC W Lv C hc hn a2 a3 en (by omega) (fun L T I1 J1 k1 C1 J9 e9 e10 => ?_)
  have i12 : I1 12 = I 12 := k1.2.1 12 (by decide) (by omega) (by decide)
  refine mc_auto (c := c) (L := L) (by rw [i12]; exact W) (by rw [i12]; exact Lv) (by rw [i12]; exact T) hc (by rw [i12]; exact ec) (fun n' h1' h2' en' I2 J2 m => ?_) (fun z => absurd en (z n h1 h2))
  rw [i12] at m ⊢
  have e : n' = n := nij en' en (by omega) (by omega)
  subst e
  have g := gon_ok L n' 165 (I 12 2) 0 W Lv
  exact post_of e10 ⟨m.choose_spec.2.2.2.1, rfl, (INV_DG V H k1 e9 m g.1 g.2.1 C1).1, (INV_DG V H k1 e9 m g.1 g.2.1 C1).2⟩
end BCH
