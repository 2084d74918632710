/-! A RANK'S EXPRESSION: the model -/
def MSw (tx : Nat → Nat) (n i : Nat) (d : SD) (sn : Nat) (hd : Bool) (g w : Nat) (I : MI) : Prop := MA tx n i I ∧ (sn < 32 ∧ I 12 0 15 = nI sn) ∧ I 12 0 16 = (if hd then 1 else 0) ∧ (I 12 0 17 = nI g ∧ g ≤ i) ∧ I 12 3 = d ∧ I 12 0 14 = nI w
section MSM
variable {tx : Nat → Nat} {n sn g : Nat} {hd : Bool}
theorem MSw_mo {i j w : Nat} {d : SD} {I I' : MI} (S : MSw tx n i d sn hd g w I) (f : mo I I') (hj : i ≤ j) (a : MA tx n j I') : MSw tx n j d sn hd g w I' := by
  obtain ⟨-, s2, s3, s4, s5, s6⟩ := S
  exact ⟨a, ⟨s2.1, by rw [f.2 15 (by decide) (by decide)]; exact s2.2⟩, by rw [f.2 16 (by decide) (by decide)]; exact s3, ⟨by rw [f.2 17 (by decide) (by decide)]; exact s4.1, by omega⟩, by rw [f.1 12 3 (by decide)]; exact s5, by rw [f.2 14 (by decide) (by decide)]; exact s6⟩
theorem MSw_em {i v w : Nat} {d : SD} {I : MI} {J : MJ} {x : Int32} {Q : MI → MJ → Prop} (S : MSw tx n i d sn hd g w I) (D : DW d) (h9 : dn d 9 < 1200) (e : x = nI v) (h : ∀ I', MSw tx n i (em d v) sn hd g w I' → mF I I' → Q I' J) : f_X8_emit x I J Q := by
  obtain ⟨s1, s2, s3, s4, s5, s6⟩ := S
  have c9 := (D.1 9 (okc_lo (by decide))).1
  have v9 : vp_in (9 : Int32) 1802 := vin 9 _ (by decide) (by decide) rfl
  have e9 : I 12 3 (9 : Int32).toNatClampNeg = nI (dn d 9) := by rw [s5]; exact c9
  have ei : (602 : Int32) + I 12 3 (9 : Int32).toNatClampNeg = nI (602 + dn d 9) := by rw [e9, nlit 602, nI_add]
  refine m_good s1 (q_f (by decide) ⟨v9, vin _ 1802 (by omega) (by decide) ei, fun I7 e7 => ⟨v9, v9, fun I10 e10 => ?_⟩⟩)
  rw [cln (by omega) ei, e] at e7
  have i10 : I10 12 3 = em d v := by
    rw [e10]
    refine (rI_same _ _ _ _).trans ?_
    have i7 : I7 12 3 = upd d (602 + dn d 9) (nI v) := by
      rw [e7]
      refine (rI_same _ _ _ _).trans ?_
      rw [s5]
    rw [i7]
    show upd (upd d (602 + dn d 9) (nI v)) 9 (upd d (602 + dn d 9) (nI v) 9 + 1) = _
    rw [upd_ot _ _ (by omega), c9, nlit 1, nI_add]
    rfl
  have o : ∀ r, r ≠ 3 → I10 12 r = I 12 r := fun r hr => by rw [e10, sI_ro _ _ _ _ _ hr, e7, sI_ro _ _ _ _ _ hr]
  have o0 := o 0 (by decide)
  exact h I10 ⟨MA_keep s1 (by rw [o0]) (by rw [o0]) (by rw [o0]) (o 1 (by decide)), by rw [o0]; exact s2, by rw [o0]; exact s3, by rw [o0]; exact s4, i10, by rw [o0]; exact s6⟩ ((mF_put (Or.inr rfl) e7).trans (mF_put (Or.inr rfl) e10))
/-- what follows: the result r, and the memory beside it -/
def FIN (tx : Nat → Nat) (n sn g : Nat) (hd : Bool) (w : Nat) (r : Except ERR SS) (I0 : MI) (J : MJ) (Q : MI → MJ → Prop) : Prop := (∀ s, r = .ok s → ∀ I', MSw tx n s.1 s.2.1 sn hd g w I' → mF I0 I' → Q I' J) ∧ ∀ c o, r = .error (c, o) → ∀ I', ME c o I0 I' → Q I' J
def mSumP (tx : Nat → Nat) (n sn g : Nat) (hd : Bool) (D : Nat) (sp : Nat → SD → List TK → Except ERR SS) (rs : MI → MJ → (MI → MJ → Prop) → Prop) : Prop :=
  ∀ (i k : Nat) (d : SD) (L : List TK) (I : MI) (J : MJ) (Q : MI → MJ → Prop), k ≤ 2 * (4 - D) → MSw tx n i d sn hd g (4 - D) I → TI n 0 i d L k → FIN tx n sn g hd (4 - D) (sp i d L) I J Q → rs I J Q
def rsB (rs : MI → MJ → (MI → MJ → Prop) → Prop) : Prop := ∀ (c : Int32) (o : Nat) (I0 I : MI) (J : MJ) (Q : MI → MJ → Prop), ME c o I0 I → Q I J → rs I J Q
theorem m_fac {D : Nat} {rs : MI → MJ → (MI → MJ → Prop) → Prop} {sp : Nat → SD → List TK → Except ERR SS} (hD : D ≤ 4) (hrs : 1 ≤ D → mSumP tx n sn g hd (D - 1) sp rs) (hB : rsB rs) (hsp : 1 ≤ D → ∀ i d L k, k ≤ 2 * (5 - D) → TI n 0 i d L k → ∀ s, sp i d L = .ok s → TO n 0 i d L k s)
    {I : MI} {J : MJ} {u i k : Nat} {d : SD} {L : List TK} {Q : MI → MJ → Prop} (hk : k ≤ 2 * (4 - D) + 2) (S : MSw tx n i d sn hd g (4 - D) I) (T : TI n u i d L k) (F : FIN tx n sn g hd (4 - D) (spFac tx n D sp i d L) I J Q) : f_X8_factor rs I J Q := by
  obtain ⟨hQ, hE⟩ := F
  have n6 := S.1.1
  have z := skp_ok (tx := tx) (n := n) S.1.2.1
  have tl := T.2.1
  have m2 := tkM_le L
  have h9 := T.2.2.2.2.2.1
  have D0 := T.2.2.2.2.1
  refine m_good S.1 (q_f (by decide) (m_ahead S.1 (fun I1 a1 f1 _ => ?_)))
  have S1 := MSw_mo S f1 z.1.1 a1
  have iff := eB_eq (s := 40) (MA_le S.1 (skp tx n i)) (by decide)
  have sk : skp tx n (skp tx n i) = skp tx n i := skp_skp S.1.2.1
  unfold spFac at hQ hE
  refine ⟨fun y => ?_, fun y => ?_⟩
  · have c := iff.mp y
    have lt := bt_lt (by decide) c
    rw [if_pos c] at hQ hE
    refine q_eq (4 - D) 4 (by omega) (by decide) S1.2.2.2.2.2 rfl (fun w => m_report a1 (skp tx n i) a1.2.2.2.1 (by decide) (fun I' er _ _ I60 e60 I61 e61 => ?_)) (fun w I60 e60 I61 e61 => ?_)
    · have er2 := ME_put (ME_put ((mF_mo f1).ME er) (Or.inr (Or.inl ⟨rfl, Or.inr rfl⟩)) e60) (Or.inl ⟨rfl, by decide⟩) e61
      exact hB _ _ _ _ J _ er2 (bad_expect er2 (fun I66 e66 => hE _ _ (if_pos (by omega)) I66 (ME_put er2 (Or.inl ⟨rfl, by decide⟩) e66)))
    · rw [if_neg (show ¬ D = 0 by omega)] at hQ hE
      have f60 : ∀ q, q ≠ 4 → I60 12 0 q = I1 12 0 q := fun q h => by rw [e60]; exact sI_ot _ _ _ _ h
      have f61 : ∀ q, q ≠ 14 → I61 12 0 q = I60 12 0 q := fun q h => by rw [e61]; exact sI_ot _ _ _ _ h
      have a60 : MA tx n (skp tx n i + 1) I60 := MA_put a1 (by omega) e60 (by rw [a1.2.2.2.1, nI_1])
      have a61 : MA tx n (skp tx n i + 1) I61 := MA_keep a60 (f61 3 (by decide)) (f61 4 (by decide)) (f61 5 (by decide)) (by rw [e61]; exact sI_ro _ _ _ _ _ (by decide))
      have S61 : MSw tx n (skp tx n i + 1) d sn hd g (4 - (D - 1)) I61 := by
        obtain ⟨s1, s2, s3, s4, s5, s6⟩ := S1
        refine ⟨a61, by rw [f61 15 (by decide), f60 15 (by decide)]; exact s2, by rw [f61 16 (by decide), f60 16 (by decide)]; exact s3, ⟨by rw [f61 17 (by decide), f60 17 (by decide)]; exact s4.1, by omega⟩, ?_, ?_⟩
        · rw [e61, sI_ro _ _ _ _ _ (by decide), e60, sI_ro _ _ _ _ _ (by decide)]; exact s5
        · rw [e61, sI_at, f60 14 (by decide), s6, nlit 1, nI_add]; congr 1; omega
      have F61 : mF I I61 := ((mF_mo f1).trans (mF_put (Or.inl ⟨rfl, Or.inr (Or.inr rfl)⟩) e60)).trans (mF_put (Or.inl ⟨rfl, Or.inl (by decide)⟩) e61)
      have T61 : TI n 0 (skp tx n i + 1) d L k := TI_len T 0 (by omega) (by omega)
      refine hrs (by omega) (skp tx n i + 1) k d L I61 J _ (by omega) S61 T61 ⟨fun s es I' S' F' => ?_, fun c o es I' E' => ?_⟩
      · rw [es, exB_ok] at hQ hE
        have zs := skp_ok (tx := tx) (n := n) S'.1.2.1
        refine m_expect S'.1 rfl (by decide) (fun j ej I2 a2 f2 I66 e66 => ?_) (fun c o ej I2 er I66 e66 => ?_)
        · have sg := sign_ok (by decide) S'.1.2.1 ej
          have S2 := MSw_mo S' f2 (Nat.le_of_lt sg.1) a2
          have f66 : ∀ q, q ≠ 14 → I66 12 0 q = I2 12 0 q := fun q h => by rw [e66]; exact sI_ot _ _ _ _ h
          obtain ⟨s1, s2, s3, s4, s5, s6⟩ := S2
          refine hQ (j, s.2.1, s.2.2) (by rw [ej]; rfl) I66 ⟨MA_keep s1 (f66 3 (by decide)) (f66 4 (by decide)) (f66 5 (by decide)) (by rw [e66]; exact sI_ro _ _ _ _ _ (by decide)), by rw [f66 15 (by decide)]; exact s2, by rw [f66 16 (by decide)]; exact s3, by rw [f66 17 (by decide)]; exact s4, by rw [e66, sI_ro _ _ _ _ _ (by decide)]; exact s5, ?_⟩ (((F61.trans F').trans (mF_mo f2)).trans (mF_put (Or.inl ⟨rfl, Or.inl (by decide)⟩) e66))
          rw [e66, sI_at, s6, nlit 1, nsub (by omega)]
          congr 1
          omega
        · exact hE c o (by rw [ej]; rfl) I66 (ME_put ((F61.trans F').ME er) (Or.inl ⟨rfl, by decide⟩) e66)
      · exact bad_expect E' (fun I66 e66 => hE c o (by rw [es]; rfl) I66 (ME_put (F61.ME E') (Or.inl ⟨rfl, by decide⟩) e66))
  · have c : ¬ bt tx n (skp tx n i) = 40 := fun w => y (iff.mpr w)
    rw [if_neg c] at hQ hE
    refine m_isDigit _ (MA_le S.1 _) rfl ?_
    have lit : ∀ (I2 : MI), MSw tx n (skp tx n i) d sn hd g (4 - D) I2 → mF I I2 → isD (bt tx n (skp tx n i)) = true → f_X8_factor_J168 rs Q (-1) I2 J := by
      intro I2 S2 F2 w
      rw [if_pos w] at hQ hE
      have en : spNum tx n 0 9999 (skp tx n i) = spNum tx n 0 9999 i := by unfold spNum; rw [sk]
      refine q_f (by decide) (m_number (lo := 0) (hi := 9999) S2.1 rfl rfl (by decide) (by decide) (fun k' v ek I3 a3 f3 _ _ l2 gt => q_f (by decide) ?_) (fun c o ek I' er => q_f (by decide) (bad_emit er (bad_emit er (hE c o (by rw [← en, ek]; rfl) I' (F2.ME er))))))
      rw [sk] at gt
      have S3 := MSw_mo S2 f3 (by omega) a3
      rw [en] at ek
      rw [ek, exB_ok] at hQ
      refine MSw_em (v := 0) S3 D0 (by omega) rfl (fun I4 S4 F4 => MSw_em (v := v) S4 (em_DW D0 (by omega) (by decide)) (by rw [em_9 0 (by omega)]; omega) rfl (fun I5 S5 F5 => hQ _ rfl I5 S5 (((F2.trans (mF_mo f3)).trans F4).trans F5)))
    by_cases w : isD (bt tx n (skp tx n i)) = true
    · rw [if_pos w]
      exact q_f (by decide) (lit I1 S1 (mF_mo f1) w)
    · rw [if_neg w] at hQ hE ⊢
      have none : ∀ (I2 : MI), MSw tx n (skp tx n i) d sn hd g (4 - D) I2 → mF I I2 → (exB (spRun tx n i) (fun k => spFact tx n (skp tx n i) k d L) = .error (-2, skp tx n i)) → f_X8_factor_J168 rs Q (-1) I2 J := by
        intro I2 S2 F2 ev
        refine q_f (by decide) (m_number (lo := 0) (hi := 9999) S2.1 rfl rfl (by decide) (by decide) (fun k' v ek I3 a3 f3 _ _ l2 gt => ?_) (fun c o ek I' er => q_f (by decide) (bad_emit er (bad_emit er (hE c o ?_ I' (F2.ME er))))))
        · unfold spNum at ek
          rw [sk, if_neg w] at ek
          cases ek
        · unfold spNum at ek
          rw [sk, if_neg w] at ek
          cases ek
          exact ev
      by_cases yl : isL (bt tx n (skp tx n i)) = true
      · have er0 : spRun tx n i = .ok (rend tx n (skp tx n i)) := if_pos yl
        have r := run_ok S.1.2.1 er0
        have some' : ∀ (f : Nat) (I2 : MI), f ≤ 5 → factOf tx n (skp tx n i) (rend tx n (skp tx n i)) = some f → MSw tx n (rend tx n (skp tx n i)) d sn hd g (4 - D) I2 → mF I I2 → f_X8_factor_J168 rs Q (nI f) I2 J := by
          intro f I2 f5 ef S2 F2
          rw [er0, exB_ok] at hQ
          unfold spFact at hQ
          rw [ef] at hQ
          have pos : (0 : Int32) ≤ nI f := (nI_leI (a := 0) (b := f) (by decide) (by omega)).mpr (Nat.zero_le _)
          refine q_t pos (q_t pos (MSw_em (v := 1) S2 D0 (by omega) rfl (fun I4 S4 F4 => MSw_em (v := f) S4 (em_DW D0 (by omega) (by decide)) (by rw [em_9 1 (by omega)]; omega) rfl (fun I5 S5 F5 => hQ _ rfl I5 S5 ((F2.trans F4).trans F5)))))
        have word : ∀ (wd : Nat) (I2 : MI) (P : Int32 → MI → MJ → Prop), wd < 13 → MSw tx n (skp tx n i) d sn hd g (4 - D) I2 → mF I I2 → (runIs tx n wd (skp tx n i) (rend tx n (skp tx n i)) = true → ∀ I3, MSw tx n (rend tx n (skp tx n i)) d sn hd g (4 - D) I3 → mF I I3 → P 1 I3 J) → (runIs tx n wd (skp tx n i) (rend tx n (skp tx n i)) = false → ∀ I3, MSw tx n (skp tx n i) d sn hd g (4 - D) I3 → mF I I3 → P 0 I3 J) → f_X8_takeWord wd I2 J P := by
          intro wd I2 P hw S2 F2 h1 h0
          refine m_takeWord hw S2.1 (fun e I3 a3 f3 => ?_) (fun e I3 a3 f3 => ?_)
          · rw [sk] at e a3
            exact h1 e I3 (MSw_mo S2 f3 (by omega) a3) (F2.trans (mF_mo f3))
          · rw [sk] at e a3
            exact h0 e I3 (MSw_mo S2 f3 (Nat.le_refl _) a3) (F2.trans (mF_mo f3))
        unfold factOf at some'
        refine q_t rfl (word 8 I1 _ (by decide) S1 (mF_mo f1) (fun e I3 S3 F3 => q_f (by decide) (some' 0 I3 (by decide) (if_pos e) S3 F3)) (fun e1 I3 S3 F3 => q_t rfl ?_))
        refine word 9 I3 _ (by decide) S3 F3 (fun e I3 S3 F3 => q_f (by decide) (some' 1 I3 (by decide) (by rw [e1, e]; rfl) S3 F3)) (fun e2 I3 S3 F3 => q_t rfl ?_)
        refine word 10 I3 _ (by decide) S3 F3 (fun e I3 S3 F3 => q_f (by decide) (some' 2 I3 (by decide) (by rw [e1, e2, e]; rfl) S3 F3)) (fun e3 I3 S3 F3 => q_t rfl ?_)
        refine word 11 I3 _ (by decide) S3 F3 (fun e I3 S3 F3 => q_f (by decide) (some' 3 I3 (by decide) (by rw [e1, e2, e3, e]; rfl) S3 F3)) (fun e4 I3 S3 F3 => q_t rfl ?_)
        refine word 12 I3 _ (by decide) S3 F3 (fun e I3 S3 F3 => q_f (by decide) (some' 4 I3 (by decide) (by rw [e1, e2, e3, e4, e]; rfl) S3 F3)) (fun e5 I3 S3 F3 => q_t rfl ?_)
        refine word 6 I3 _ (by decide) S3 F3 (fun e I3 S3 F3 => q_f (by decide) (some' 5 I3 (by decide) (by rw [e1, e2, e3, e4, e5, e]; rfl) S3 F3)) (fun e6 I3 S3 F3 => q_t rfl (none I3 S3 F3 ?_))
        rw [er0, exB_ok]
        unfold spFact factOf
        rw [e1, e2, e3, e4, e5, e6]
        rfl
      · have er0 : spRun tx n i = .error (-2, skp tx n i) := if_neg yl
        have no : ∀ wd, wd < 13 → runIs tx n wd (skp tx n i) (rend tx n (skp tx n i)) = false := fun wd hw => by
          apply Bool.eq_false_iff.mpr
          intro e
          unfold runIs at e
          have h := of_decide_eq_true (Bool.and_eq_true_iff.mp e).2 0 (by have := wPos wd hw; omega)
          rw [Nat.add_zero] at h
          rw [h] at yl
          exact yl (wLet wd hw 0 (by have := wPos wd hw; omega))
        have word : ∀ (wd : Nat) (I2 : MI) (P : Int32 → MI → MJ → Prop), wd < 13 → MSw tx n (skp tx n i) d sn hd g (4 - D) I2 → mF I I2 → (∀ I3, MSw tx n (skp tx n i) d sn hd g (4 - D) I3 → mF I I3 → P 0 I3 J) → f_X8_takeWord wd I2 J P := by
          intro wd I2 P hw S2 F2 h0
          refine m_takeWord hw S2.1 (fun e I3 a3 f3 => ?_) (fun e I3 a3 f3 => ?_)
          · rw [sk, no wd hw] at e; cases e
          · rw [sk] at a3
            exact h0 I3 (MSw_mo S2 f3 (Nat.le_refl _) a3) (F2.trans (mF_mo f3))
        exact q_t rfl (word 8 I1 _ (by decide) S1 (mF_mo f1) (fun I3 S3 F3 => q_t rfl (word 9 I3 _ (by decide) S3 F3 (fun I3 S3 F3 => q_t rfl (word 10 I3 _ (by decide) S3 F3 (fun I3 S3 F3 => q_t rfl (word 11 I3 _ (by decide) S3 F3 (fun I3 S3 F3 => q_t rfl (word 12 I3 _ (by decide) S3 F3 (fun I3 S3 F3 => q_t rfl (word 6 I3 _ (by decide) S3 F3 (fun I3 S3 F3 => q_t rfl (none I3 S3 F3 (by rw [er0]; rfl))))))))))))))
end MSM
