/-! STATEMENTS, on both sides -/
theorem RR_8 {I : MI} {J : MJ} {d : SD} {g : Nat} {v : Int32} (R : RR I J d g) : RR I J (upd d 8 v) g := by
  obtain ⟨A, ⟨F, G⟩, Rw, P⟩ := R
  have z := RRo_low (c := 8) (v := v) (I' := I) (show RRo I J d from ⟨A, Rw, P⟩) (by decide) (fun _ _ => rfl)
  refine ⟨z.1, ⟨F, fun x hx => ?_⟩, z.2⟩
  rw [dn_ot d v (show 10 + x ≠ 8 by omega), dn_ot d v (show 10 + F (dn d (10 + x)) ≠ 8 by omega)]
  exact G x hx
theorem GM_8 {I : MI} {d : SD} {v : Int32} (G : GM I d) : GM I (upd d 8 v) := by
  obtain ⟨gm, g1, g2, g3⟩ := G
  exact ⟨gm, g1, g2, fun x hx => by rw [dn_ot d v (show 10 + x ≠ 8 by omega)]; exact g3 x hx⟩
section KST
variable {tx : Nat → Nat} {n : Nat}
theorem k_stmt {I : MI} {J : MJ} {j k sn g : Nat} {d : SD} {L : List TK} {hd : Bool} {Q : Int32 → MI → MJ → Prop} (S : KS tx n k d L sn hd g I J) (e7 : I 11 4 7 = nI j) (hj : j ≤ k) (h4 : 4 ≤ k) (D : DW d) (R : RT d L sn) (hg : g ≤ 600)
    (hQ : ∀ st, spBody tx n j k d L sn hd g = .ok st → ∀ I' J', KS tx n st.1 st.2.1 st.2.2.1 st.2.2.2.1 st.2.2.2.2.1 st.2.2.2.2.2 I' J' → kF I I' J J' → Q 1 I' J') (hE : ∀ c o, spBody tx n j k d L sn hd g = .error (c, o) → ∀ I' J', kE c o I I' J J' → Q 0 I' J') : f_X5_readStatement I J Q := by
  have n6 := S.1.1
  have kn := S.1.2.1
  have st : ∀ (w : Nat), w < 13 → ∀ {Q' : Int32 → MI → MJ → Prop}, Q' (if runIs tx n w j k then 1 else 0) I J → f_X5_runIs w I J Q' := fun w hw _ h' => k_runIs hw S.1 e7 hj h'
  unfold spBody at hQ hE
  have fail : ∀ (P : Prop), (∀ c o, (.error (-2, j) : Except ERR S6) = .error (c, o) → ∀ I' J', kE c o I I' J J' → Q 0 I' J') → f_X5_fail (-2) (I 11 4 7) I J (fun v I' J' => bo v ∧ Q v I' J') := fun _ h => k_fail j e7 (fun I' er => ⟨bo0, h _ _ rfl I' J (kE_er er)⟩)
  refine st 1 (by decide) ?_
  by_cases y1 : runIs tx n 1 j k = true
  · rw [if_pos y1] at hQ hE ⊢
    refine q_f (by decide) ?_
    unfold f_X5_readPlayers
    rw [S.2.2.1]
    by_cases h : hd = true
    · rw [if_pos h] at hE ⊢
      exact q_f (by decide) (fail True hE |> fun x => k_fail j e7 (fun I' er => ⟨bo0, bo0, hE _ _ rfl I' J (kE_er er)⟩))
    · rw [if_neg h] at hQ hE ⊢
      exact q_t rfl (k_val (Q := fun v I' J' => bo v ∧ Q v I' J') (bit := 0) (lo := 2) (hi := 4) (c := 1) S e7 (by decide) rfl rfl rfl (by decide) (by decide) (by decide) rfl (fun k' d' sn' e I' J' S' F' => ⟨bo1, hQ _ (by rw [e]; rfl) I' J' S' F'⟩) (fun c o e I' J' E' => ⟨bo0, hE c o (by rw [e]; rfl) I' J' E'⟩))
  · rw [if_neg y1] at hQ hE ⊢
    refine q_t rfl (st 2 (by decide) ?_)
    by_cases y2 : runIs tx n 2 j k = true
    · rw [if_pos y2] at hQ hE ⊢
      exact q_f (by decide) (k_val (Q := fun v I' J' => bo v ∧ Q v I' J') (bit := 1) (lo := 1) (hi := 4) (c := 2) S e7 (by decide) rfl rfl rfl (by decide) (by decide) (by decide) rfl (fun k' d' sn' e I' J' S' F' => ⟨bo1, hQ _ (by rw [e]; rfl) I' J' S' F'⟩) (fun c o e I' J' E' => ⟨bo0, hE c o (by rw [e]; rfl) I' J' E'⟩))
    · rw [if_neg y2] at hQ hE ⊢
      refine q_t rfl (st 3 (by decide) ?_)
      by_cases y3 : runIs tx n 3 j k = true
      · rw [if_pos y3] at hQ hE ⊢
        exact q_f (by decide) (k_val (Q := fun v I' J' => bo v ∧ Q v I' J') (bit := 2) (lo := 0) (hi := 9) (c := 3) S e7 (by decide) rfl rfl rfl (by decide) (by decide) (by decide) rfl (fun k' d' sn' e I' J' S' F' => ⟨bo1, hQ _ (by rw [e]; rfl) I' J' S' F'⟩) (fun c o e I' J' E' => ⟨bo0, hE c o (by rw [e]; rfl) I' J' E'⟩))
      · rw [if_neg y3] at hQ hE ⊢
        refine q_t rfl (st 4 (by decide) ?_)
        by_cases y4 : runIs tx n 4 j k = true
        · rw [if_pos y4] at hQ hE ⊢
          exact q_f (by decide) (k_val (Q := fun v I' J' => bo v ∧ Q v I' J') (bit := 3) (lo := 0) (hi := 99) (c := 4) S e7 (by decide) rfl rfl rfl (by decide) (by decide) (by decide) rfl (fun k' d' sn' e I' J' S' F' => ⟨bo1, hQ _ (by rw [e]; rfl) I' J' S' F'⟩) (fun c o e I' J' E' => ⟨bo0, hE c o (by rw [e]; rfl) I' J' E'⟩))
        · rw [if_neg y4] at hQ hE ⊢
          refine q_t rfl (st 5 (by decide) ?_)
          by_cases y5 : runIs tx n 5 j k = true
          · rw [if_pos y5] at hQ hE ⊢
            exact q_f (by decide) (k_alike S D hg (fun k' d' e I' J' S' F' => ⟨bo1, hQ (k', d', L, sn, hd, g + 1) (by rw [e]; rfl) I' J' S' F'⟩) (fun c o e I' J' E' => ⟨bo0, hE c o (by rw [e]; rfl) I' J' E'⟩))
          · rw [if_neg y5] at hQ hE ⊢
            refine q_t rfl (st 6 (by decide) ?_)
            by_cases y6 : runIs tx n 6 j k = true
            · rw [if_pos y6] at hQ hE ⊢
              exact q_f (by decide) (k_hand S D (fun k' d' e I' J' S' F' _ => ⟨bo1, hQ (k', d', L, sn, true, g) (by rw [e]; rfl) I' J' S' F'⟩) (fun c o e I' J' E' => ⟨bo0, hE c o (by rw [e]; rfl) I' J' E'⟩))
            · rw [if_neg y6] at hQ hE ⊢
              refine q_t rfl (st 7 (by decide) ?_)
              by_cases y7 : runIs tx n 7 j k = true
              · rw [if_pos y7] at hQ hE ⊢
                refine q_f (by decide) (fun I33 e33 => ?_)
                have o11 : ∀ r, I33 11 r = I 11 r := fun r => by rw [e33]; unfold sI; exact rI_ne (by omega)
                have o10 : ∀ r, r ≠ 2 → I33 10 r = I 10 r := fun r h => by rw [e33]; exact sI_ro _ _ _ _ _ h
                have F33 : kF I I33 J J := ⟨fun b r nb _ => by rw [e33]; unfold sI; exact rI_ne (fun y => nb y.1), fun _ _ => rfl, fun q _ => by rw [o11]⟩
                have S33 : KS tx n k d [] sn hd g I33 J := by
                  obtain ⟨s1, s2, s3, s4, s5, s6⟩ := S
                  refine ⟨KA_keep s1 (by rw [o11]) (by rw [o11]) (o11 5), by rw [o11]; exact s2, by rw [o11]; exact s3, by unfold GM; rw [o11]; exact s4, ?_, by rw [e33, sI_at]; rfl, fun q hq => absurd hq (Nat.not_lt_zero q)⟩
                  unfold RR GG
                  rw [o10 0 (by decide), o10 1 (by decide), o10 3 (by decide), o10 4 (by decide), o10 8 (by decide), o10 9 (by decide), o10 11 (by decide), o10 13 (by decide), o10 14 (by decide)]
                  exact s5
                refine k_tellOnce sn 4 j S33.2.1.1 (by decide) S33.2.1.2 (by rw [o11]; exact e7) rfl (fun z I1 g1 s32 => q_f (by decide) ?_) (fun z I' er => q_t rfl (hE _ _ (if_pos z) I' J (F33.kE (kE_er er))))
                rw [if_neg (by rw [z]; decide)] at hQ hE
                have T := KS_tell S33 s32 g1
                have S2 : KS tx n k (upd d 8 1) [] (sn + 2 ^ 4) hd g I1 J := ⟨T.1.1, T.1.2.1, T.1.2.2.1, GM_8 T.1.2.2.2.1, RR_8 T.1.2.2.2.2.1, T.1.2.2.2.2.2⟩
                have T0 : TI n 0 k (upd d 8 1) [] 0 := TI_start D (R.1 z).2.1 h4 kn n6
                exact k_sum 4 6 (by decide) (by decide) 0 k 0 (upd d 8 1) [] I1 J _ rfl (by decide) S2 T0 (fun s es I' S' F' => q_f (by decide) (hQ (s.1, s.2.1, s.2.2, sn + 16, hd, g) (by rw [es]; rfl) I' J S' ((F33.trans T.2).trans F'))) (fun c o es I' E' => q_t rfl (hE c o (by rw [es]; rfl) I' J ((F33.trans T.2).kE E')))
              · rw [if_neg y7] at hE ⊢
                exact q_t rfl (fail True hE)
end KST
section MST
variable {tx : Nat → Nat} {n : Nat}
theorem m_stmt {I : MI} {J : MJ} {i sn g : Nat} {d : SD} {L : List TK} {hd : Bool} {Q : MI → MJ → Prop} (S : MS tx n i d sn hd g I) (h4 : 4 ≤ i) (D : DW d) (R : RT d L sn)
    (hQ : ∀ st, spStmt tx n (i, d, L, sn, hd, g) = .ok st → ∀ I', MS tx n st.1 st.2.1 st.2.2.2.1 st.2.2.2.2.1 st.2.2.2.2.2 I' → mF I I' → Q I' J) (hE : ∀ c o, spStmt tx n (i, d, L, sn, hd, g) = .error (c, o) → ∀ I', ME c o I I' → Q I' J) : f_X8_statement I J Q := by
  have n6 := S.1.1
  have ni := S.1.2.1
  have z := skp_ok (tx := tx) (n := n) ni
  have sk : skp tx n (skp tx n i) = skp tx n i := skp_skp ni
  refine m_ahead S.1 (fun I1 a1 f1 _ x1 ex1 => ?_)
  have S1 := MS_mo S f1 z.1.1 a1
  have q1 : x1 = nI (skp tx n i) := by rw [ex1]; exact a1.2.2.2.1
  unfold spStmt at hQ hE
  -- the closing sign
  have fin : ∀ (r : Except ERR S6) (st : S6) (I2 : MI), r = .ok st → exB (spRun tx n i) (fun k => exB (spBody tx n (skp tx n i) k d L sn hd g) (fun s => exB (spSign tx n 59 s.1) (fun e => .ok (e, s.2)))) = exB r (fun s => exB (spSign tx n 59 s.1) (fun e => .ok (e, s.2))) → MS tx n st.1 st.2.1 st.2.2.2.1 st.2.2.2.2.1 st.2.2.2.2.2 I2 → mF I I2 → f_X8_statement_J179 Q I2 J := by
    intro r st I2 er ev S2 F2
    rw [er, exB_ok] at ev
    refine m_expect S2.1 rfl (by decide) (fun j ej I3 a3 f3 => ?_) (fun c o ej I3 e3 => ?_)
    · have sg := sign_ok (by decide) S2.1.2.1 ej
      exact hQ (j, st.2) (by rw [show (i, d, L, sn, hd, g).1 = i from rfl]; exact ev.trans (by rw [ej]; rfl)) I3 (MS_mo S2 f3 (Nat.le_of_lt sg.1) a3) (F2.trans (mF_mo f3))
    · exact hE c o (ev.trans (by rw [ej]; rfl)) I3 (F2.ME e3)
  have finE : ∀ (c : Int32) (o : Nat) (I2 : MI), exB (spRun tx n i) (fun k => exB (spBody tx n (skp tx n i) k d L sn hd g) (fun s => exB (spSign tx n 59 s.1) (fun e => .ok (e, s.2)))) = .error (c, o) → ME c o I I2 → f_X8_statement_J179 Q I2 J := fun c o I2 ev E2 => bad_expect E2 (hE c o ev I2 E2)
  by_cases yl : isL (bt tx n (skp tx n i)) = true
  · have er0 : spRun tx n i = .ok (rend tx n (skp tx n i)) := if_pos yl
    have ro := run_ok ni er0
    rw [er0, exB_ok] at fin finE
    have word : ∀ (wd : Nat) (I2 : MI) (P : Int32 → MI → MJ → Prop), wd < 13 → MS tx n (skp tx n i) d sn hd g I2 → mF I I2 → (runIs tx n wd (skp tx n i) (rend tx n (skp tx n i)) = true → ∀ I3, MS tx n (rend tx n (skp tx n i)) d sn hd g I3 → mF I I3 → P 1 I3 J) → (runIs tx n wd (skp tx n i) (rend tx n (skp tx n i)) = false → ∀ I3, MS tx n (skp tx n i) d sn hd g I3 → mF I I3 → P 0 I3 J) → f_X8_takeWord wd I2 J P := by
      intro wd I2 P hw S2 F2 h1 h0
      refine m_takeWord hw S2.1 (fun e I3 a3 f3 => ?_) (fun e I3 a3 f3 => ?_)
      · rw [sk] at e a3
        exact h1 e I3 (MS_mo S2 f3 (by omega) a3) (F2.trans (mF_mo f3))
      · rw [sk] at e a3
        exact h0 e I3 (MS_mo S2 f3 (Nat.le_refl _) a3) (F2.trans (mF_mo f3))
    have valG : ∀ (bit lo hi c : Nat) (x0 x2 x4 x5 : Int32) (I2 : MI), bit < 5 → lo ≤ 9999 → hi ≤ 9999 → c ≤ 4 → x0 = nI bit → x2 = nI c → x4 = nI lo → x5 = nI hi → spBody tx n (skp tx n i) (rend tx n (skp tx n i)) d L sn hd g = exB (spVal tx n bit lo hi c (skp tx n i) (rend tx n (skp tx n i)) d sn) (fun q => .ok (q.1, q.2.1, L, q.2.2, hd, g)) → MS tx n (rend tx n (skp tx n i)) d sn hd g I2 → mF I I2 → f_X8_readValue x0 x2 x1 x4 x5 I2 J (fun I3 J3 => f_X8_statement_J179 Q I3 J3) := by
      intro bit lo hi c x0 x2 x4 x5 I2 hb hlo hhi hc e0 e2 e4 e5 ev S2 F2
      refine m_val S2 hb e0 e2 q1 e4 e5 hlo hhi hc (fun k' d' sn' e I3 S3 F3 => ?_) (fun c' o e I3 E3 => ?_)
      · exact fin (.ok (k', d', L, sn', hd, g)) _ I3 rfl (by rw [ev, e]; rfl) S3 (F2.trans F3)
      · exact finE c' o I3 (by rw [ev, e]; rfl) (F2.ME E3)
    refine word 1 I1 _ (by decide) S1 (mF_mo f1) (fun y I2 S2 F2 => q_f (by decide) ?_) (fun y1 I2 S2 F2 => q_t rfl ?_)
    · have eb : spBody tx n (skp tx n i) (rend tx n (skp tx n i)) d L sn hd g = if hd = true then .error (-2, skp tx n i) else exB (spVal tx n 0 2 4 1 (skp tx n i) (rend tx n (skp tx n i)) d sn) (fun q => .ok (q.1, q.2.1, L, q.2.2, hd, g)) := by unfold spBody; rw [if_pos y]
      rw [S2.2.2.1]
      by_cases h : hd = true
      · rw [if_pos h] at eb
        rw [if_pos h]
        exact q_f (by decide) (m_report S2.1 (skp tx n i) q1 (by decide) (fun I3 e3 _ _ => bad_value e3 (vin 1 _ (by decide) (by decide) rfl) (fun I4 e4 => finE _ _ I4 (by rw [eb]; rfl) (F2.ME e4))))
      · rw [if_neg h] at eb
        rw [if_neg h]
        exact q_t rfl (valG 0 2 4 1 0 1 2 4 I2 (by decide) (by decide) (by decide) (by decide) rfl rfl rfl rfl eb S2 F2)
    · refine word 2 I2 _ (by decide) S2 F2 (fun y I3 S3 F3 => q_f (by decide) (valG 1 1 4 2 1 2 1 4 I3 (by decide) (by decide) (by decide) (by decide) rfl rfl rfl rfl (by unfold spBody; rw [y1, y]; rfl) S3 F3)) (fun y2 I3 S3 F3 => q_t rfl ?_)
      refine word 3 I3 _ (by decide) S3 F3 (fun y I4 S4 F4 => q_f (by decide) (valG 2 0 9 3 2 3 0 9 I4 (by decide) (by decide) (by decide) (by decide) rfl rfl rfl rfl (by unfold spBody; rw [y1, y2, y]; rfl) S4 F4)) (fun y3 I4 S4 F4 => q_t rfl ?_)
      refine word 4 I4 _ (by decide) S4 F4 (fun y I5 S5 F5 => q_f (by decide) (valG 3 0 99 4 3 4 0 99 I5 (by decide) (by decide) (by decide) (by decide) rfl rfl rfl rfl (by unfold spBody; rw [y1, y2, y3, y]; rfl) S5 F5)) (fun y4 I5 S5 F5 => q_t rfl ?_)
      refine word 5 I5 _ (by decide) S5 F5 (fun y I6 S6 F6 => q_f (by decide) ?_) (fun y5 I6 S6 F6 => q_t rfl ?_)
      · have eb : spBody tx n (skp tx n i) (rend tx n (skp tx n i)) d L sn hd g = exB (spAlike tx n (rend tx n (skp tx n i)) d g) (fun q => .ok (q.1, q.2, L, sn, hd, g + 1)) := by unfold spBody; rw [y1, y2, y3, y4, y]; rfl
        exact m_alike S6 D (fun k' d' e I7 S7 F7 => fin (.ok (k', d', L, sn, hd, g + 1)) _ I7 rfl (by rw [eb, e]; rfl) S7 (F6.trans F7)) (fun c o e I7 E7 => finE c o I7 (by rw [eb, e]; rfl) (F6.ME E7))
      · refine word 6 I6 _ (by decide) S6 F6 (fun y I7 S7 F7 => q_f (by decide) ?_) (fun y6 I7 S7 F7 => q_t rfl ?_)
        · have eb : spBody tx n (skp tx n i) (rend tx n (skp tx n i)) d L sn hd g = exB (spHand tx n (rend tx n (skp tx n i)) d) (fun q => .ok (q.1, q.2, L, sn, true, g)) := by unfold spBody; rw [y1, y2, y3, y4, y5, y]; rfl
          exact m_hand S7 D (fun k' d' e I8 S8 F8 _ => fin (.ok (k', d', L, sn, true, g)) _ I8 rfl (by rw [eb, e]; rfl) S8 (F7.trans F8)) (fun c o e I8 E8 => finE c o I8 (by rw [eb, e]; rfl) (F7.ME E8))
        · refine word 7 I7 _ (by decide) S7 F7 (fun y I8 S8 F8 => q_f (by decide) ?_) (fun y7 I8 S8 F8 => q_t rfl ?_)
          · have eb : spBody tx n (skp tx n i) (rend tx n (skp tx n i)) d L sn hd g = if sn.testBit 4 = true then .error (-2, skp tx n i) else exB (spSum tx n 4 (rend tx n (skp tx n i)) (upd d 8 1) []) (fun s => .ok (s.1, s.2.1, s.2.2, sn + 16, hd, g)) := by unfold spBody; rw [y1, y2, y3, y4, y5, y6, y]; rfl
            have v8 : vp_in (8 : Int32) 1802 := vin 8 _ (by decide) (by decide) rfl
            refine m_once S8.1 sn 4 (skp tx n i) S8.2.1.1 (by decide) S8.2.1.2 rfl q1 (fun zz I9 g9 s32 => ⟨v8, fun I42 e42 => ?_⟩) (fun zz I' er => ⟨v8, fun I42 e42 => ?_⟩)
            · rw [if_neg (by rw [zz]; decide)] at eb
              have f9 : ∀ q, q ≠ 15 → I9 12 0 q = I8 12 0 q := fun q h => by rw [g9]; exact sI_ot _ _ _ _ h
              have f42 : ∀ q, I42 12 0 q = I9 12 0 q := fun q => by rw [e42, sI_ro _ _ _ _ _ (by decide)]
              have F42 : mF I I42 := (F8.trans (mF_put (Or.inl ⟨rfl, Or.inl (by decide)⟩) g9)).trans (mF_put (Or.inr rfl) e42)
              have S42 : MSw tx n (rend tx n (skp tx n i)) (upd d 8 1) (sn + 2 ^ 4) hd g 0 I42 := by
                obtain ⟨s1, s2, s3, s4, s5, s6⟩ := S8
                refine ⟨MA_keep s1 (by rw [f42, f9 3 (by decide)]) (by rw [f42, f9 4 (by decide)]) (by rw [f42, f9 5 (by decide)]) (by rw [e42, sI_ro _ _ _ _ _ (by decide), g9, sI_ro _ _ _ _ _ (by decide)]), ⟨s32, by rw [f42, g9, sI_at]⟩, by rw [f42, f9 16 (by decide)]; exact s3, by rw [f42, f9 17 (by decide)]; exact s4, ?_, by rw [f42, f9 14 (by decide)]; exact s6⟩
                rw [e42]
                refine (rI_same _ _ _ _).trans ?_
                rw [g9, sI_ro _ _ _ _ _ (by decide), s5]
                rfl
              have T0 : TI n 0 (rend tx n (skp tx n i)) (upd d 8 1) [] 0 := TI_start D (R.1 zz).2.1 (by omega) ro.2.1 n6
              refine m_sum 4 7 (by decide) (by decide) _ 0 (upd d 8 1) [] I42 J _ (by decide) S42 T0 ⟨fun s es I' S' F' => ?_, fun c o es I' E' => ?_⟩
              · exact fin (.ok (s.1, s.2.1, s.2.2, sn + 16, hd, g)) _ I' rfl (by rw [eb, es]; rfl) S' (F42.trans F')
              · exact finE c o I' (by rw [eb, es]; rfl) (F42.ME E')
            · rw [if_pos zz] at eb
              have er2 := ME_put er (Or.inr (Or.inr rfl)) e42
              exact rsB_sum 7 (by decide) _ _ _ _ J _ er2 (finE _ _ I42 (by rw [eb]; rfl) (F8.ME er2))
          · refine m_report S8.1 (skp tx n i) q1 (by decide) (fun I9 e9 _ _ => finE _ _ I9 ?_ (F8.ME e9))
            unfold spBody
            rw [y1, y2, y3, y4, y5, y6, y7]
            rfl
  · have er0 : spRun tx n i = .error (-2, skp tx n i) := if_neg yl
    rw [er0] at finE
    have no : ∀ wd, wd < 13 → runIs tx n wd (skp tx n i) (rend tx n (skp tx n i)) = false := fun wd hw => by
      apply Bool.eq_false_iff.mpr
      intro e
      unfold runIs at e
      have h := of_decide_eq_true (Bool.and_eq_true_iff.mp e).2 0 (by have := wPos wd hw; omega)
      rw [Nat.add_zero] at h
      rw [h] at yl
      exact yl (wLet wd hw 0 (by have := wPos wd hw; omega))
    have word : ∀ (wd : Nat) (I2 : MI) (P : Int32 → MI → MJ → Prop), wd < 13 → MS tx n (skp tx n i) d sn hd g I2 → mF I I2 → (∀ I3, MS tx n (skp tx n i) d sn hd g I3 → mF I I3 → P 0 I3 J) → f_X8_takeWord wd I2 J P := by
      intro wd I2 P hw S2 F2 h0
      refine m_takeWord hw S2.1 (fun e I3 a3 f3 => ?_) (fun e I3 a3 f3 => ?_)
      · rw [sk, no wd hw] at e; cases e
      · rw [sk] at a3
        exact h0 I3 (MS_mo S2 f3 (Nat.le_refl _) a3) (F2.trans (mF_mo f3))
    exact word 1 I1 _ (by decide) S1 (mF_mo f1) (fun I3 S3 F3 => q_t rfl (word 2 I3 _ (by decide) S3 F3 (fun I3 S3 F3 => q_t rfl (word 3 I3 _ (by decide) S3 F3 (fun I3 S3 F3 => q_t rfl (word 4 I3 _ (by decide) S3 F3 (fun I3 S3 F3 => q_t rfl (word 5 I3 _ (by decide) S3 F3 (fun I3 S3 F3 => q_t rfl (word 6 I3 _ (by decide) S3 F3 (fun I3 S3 F3 => q_t rfl (word 7 I3 _ (by decide) S3 F3 (fun I3 S3 F3 => q_t rfl (m_report S3.1 (skp tx n i) q1 (by decide) (fun I9 e9 _ _ => finE _ _ I9 rfl (F3.ME e9))))))))))))))))
end MST
