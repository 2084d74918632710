/-! WORDS OF HANDS: the model -/
section MH
variable {tx : Nat → Nat} {n sn g p : Nat} {hd : Bool}
theorem bad_97 {I0 I : MI} {J : MJ} {c : Int32} {o : Nat} {x1 x2 x3 x4 x5 : Int32} {Q : MI → MJ → Prop} (e : ME c o I0 I) (h : Q I J) : f_X8_readText_J97 Q x1 x2 x3 x4 x5 I J :=
  have h111 : f_X8_readText_J111 Q x1 x3 x5 I J := bad_good e (q_t rfl h)
  ⟨fun _ => bad_report e h111, fun _ => h111⟩
theorem bad_text {I0 I : MI} {J : MJ} {c : Int32} {o : Nat} {x1 : Int32} {Q : MI → MJ → Prop} (e : ME c o I0 I) (h : Q I J) : f_X8_readText x1 I J Q := bad_good e (q_t rfl h)
theorem m_text {I : MI} {J : MJ} {i : Nat} {d : SD} {x1 : Int32} {Q : MI → MJ → Prop} (S : MS tx n i d sn hd g I) (D : DW d) (hp : p < 4) (e1 : x1 = nI p)
    (hQ : ∀ k d', spTxt tx n p i d = .ok (k, d') → ∀ I', MS tx n k d' sn hd g I' → mF I I' → DW d' → mMany d' p = mMany d p + 1 → mMany d p < 8 → Q I' J) (hE : ∀ c o, spTxt tx n p i d = .error (c, o) → ∀ I', ME c o I I' → Q I' J) : f_X8_readText x1 I J Q := by
  have n6 := S.1.1
  have z0 := skp_ok (tx := tx) (n := n) S.1.2.1
  have dp := D.2.2.2 p hp
  have em : d (pA p + 1) = nI (mMany d p) := (D.1 _ (okc_pl hp (k := 1) (by decide) (by decide))).1
  unfold spTxt at hQ hE
  refine m_good S.1 (q_f (by decide) (m_ahead S.1 (fun I1 a1 f1 _ => m_isLetter _ (MA_le S.1 _) rfl ?_)))
  have S1 := MS_mo S f1 z0.1.1 a1
  by_cases y : isL (bt tx n (skp tx n i)) = true
  · have er0 : spRun tx n i = .ok (rend tx n (skp tx n i)) := if_pos y
    rw [er0, exB_ok] at hQ hE
    rw [if_pos y]
    obtain ⟨-, lets, kn⟩ := run_lets S.1.2.1 er0
    have r := rend_ok (tx := tx) (n := n) z0.1.2
    have gt : skp tx n i < rend tx n (skp tx n i) := by
      rcases Nat.lt_or_ge (skp tx n i) (rend tx n (skp tx n i)) with q | q
      · exact q
      · have e := r.2.1
        rw [show rend tx n (skp tx n i) = skp tx n i from Nat.le_antisymm q r.1.1, y] at e
        cases e
    have epA : nI (pA p) + (1 : Int32) = nI (pA p + 1) := by rw [nlit 1, nI_add]
    refine q_f (by decide) (fun x2 ex2 => m_playerAt p e1 ⟨vin (pA p + 1) 1802 (show 306 + 74 * p + 1 < 1802 by omega) (by decide) epA, fun x4 ex4 => ?_⟩)
    rw [cln (show 306 + 74 * p + 1 < 2 ^ 31 by omega) epA, S1.2.2.2.2.1, em] at ex4
    have q2 : x2 = nI (skp tx n i) := by rw [ex2]; exact a1.2.2.2.1
    refine m_min (mMany d p) 7 (by omega) (by decide) ex4 rfl (m_wordAt p (min (mMany d p) 7) e1 rfl ⟨rend tx n (skp tx n i) - skp tx n i + 1, ?_⟩)
    refine up_inv (fun m (_ : Unit) q => f_X8_readText_L62 _ m q I1 J) (fun _ _ => True) (rend tx n (skp tx n i) - skp tx n i) (fun m s _ => ?_) (fun m s q hq _ ih => ?_) () trivial
    · show f_X8_readText_B62 _ _ _ I1 J
      have ea : (I1 12 0 4) + nI (rend tx n (skp tx n i) - skp tx n i) = nI (rend tx n (skp tx n i)) := by rw [a1.2.2.2.1, nI_add]; congr 1; omega
      refine m_byte a1 _ (by omega) ea (m_isLetter _ (MA_le a1 _) rfl ?_)
      rw [r.2.1]
      refine q_t rfl (q_le (rend tx n (skp tx n i) - skp tx n i) 8 (by omega) (by decide) rfl rfl (fun h8 => ?_) (fun h8 => m_report a1 _ q2 (by decide) (fun I' er _ _ => bad_97 er (hE _ _ (if_pos h8) I' ((mF_mo f1).ME er)))))
      rw [if_neg (by omega)] at hQ hE
      refine q_eq (mMany d p) 8 (by omega) (by decide) ex4 rfl (fun hm => m_report a1 _ q2 (by decide) (fun I' er _ _ => ?_)) (fun hm => ?_)
      · exact bad_good er (q_t rfl (hE _ _ (if_pos hm) I' ((mF_mo f1).ME er)))
      · rw [if_neg hm] at hQ
        rw [show min (mMany d p) 7 = mMany d p by omega]
        have hl : ∀ q, q < rend tx n (skp tx n i) - skp tx n i → isL (tx (skp tx n i + q)) = true := fun q hq => lets _ (by omega) (by omega)
        have D' := DW_add (tx := tx) (j := skp tx n i) (n := rend tx n (skp tx n i) - skp tx n i) D hp (by omega) (by omega) hl
        have wlt : wA p (mMany d p) + 9 < 1802 := by show 306 + 74 * p + 2 + 9 * mMany d p + 9 < 1802; omega
        refine m_good a1 (q_f (by decide) ⟨vin (wA p (mMany d p)) 1802 (by omega) (by decide) rfl, fun I57 e57 => ⟨rend tx n (skp tx n i) - skp tx n i + 1, ?_⟩⟩)
        rw [nI_clamp (show wA p (mMany d p) < 2 ^ 31 by omega)] at e57
        have i57 : I57 12 3 = upd d (wA p (mMany d p)) (nI (rend tx n (skp tx n i) - skp tx n i)) := by
          rw [e57]
          refine (rI_same _ _ _ _).trans ?_
          rw [S1.2.2.2.2.1]
        have o57 : ∀ q, I57 12 0 q = I1 12 0 q := fun q => by rw [e57, sI_ro _ _ _ _ _ (by decide)]
        have a57 : MA tx n (skp tx n i) I57 := MA_keep a1 (o57 3) (o57 4) (o57 5) (by rw [e57]; exact sI_ro _ _ _ _ _ (by decide))
        have F57 : mF I I57 := (mF_mo f1).trans (mF_put (Or.inr rfl) e57)
        refine up_inv (fun m (s : MI) q => f_X8_readText_L130 (nI (rend tx n (skp tx n i) - skp tx n i)) (nI (wA p (mMany d p))) _ m q s J) (fun q s => s 12 3 = ltr tx (wA p (mMany d p)) (skp tx n i) (upd d (wA p (mMany d p)) (nI (rend tx n (skp tx n i) - skp tx n i))) q ∧ (∀ q', s 12 0 q' = I57 12 0 q') ∧ MA tx n (skp tx n i) s ∧ mF I s) (rend tx n (skp tx n i) - skp tx n i) (fun m s hs => ?_) (fun m s q hq hs ih => ?_) I57 ⟨i57, fun _ => rfl, a57, F57⟩
        · show f_X8_readText_B130 _ _ _ _ _ s J
          obtain ⟨h3, h0, aS, FS⟩ := hs
          have pne : pA p + 1 ≠ wA p (mMany d p) := by show 306 + 74 * p + 1 ≠ 306 + 74 * p + 2 + 9 * mMany d p; omega
          have pl : pA p + 1 < wA p (mMany d p) + 1 := by show 306 + 74 * p + 1 < 306 + 74 * p + 2 + 9 * mMany d p + 1; omega
          have em3 : s 12 3 (pA p + 1) = nI (mMany d p) := by
            rw [h3, ltr_out _ (Or.inl pl), upd_ot _ _ pne]
            exact em
          have vpA : vp_in (nI (pA p) + (1 : Int32)) 1802 := vin (pA p + 1) 1802 (show 306 + 74 * p + 1 < 1802 by omega) (by decide) epA
          refine q_t (Int32.le_refl _) (m_playerAt p e1 ⟨vpA, vpA, fun I77 e77 I78 e78 => ?_⟩)
          rw [cln (show 306 + 74 * p + 1 < 2 ^ 31 by omega) epA, em3, nlit 1, nI_add] at e77
          have o77 : ∀ q, I77 12 0 q = I1 12 0 q := fun q => by rw [e77, sI_ro _ _ _ _ _ (by decide), h0, o57]
          have a77 : MA tx n (skp tx n i) I77 := MA_keep a1 (o77 3) (o77 4) (o77 5) (by rw [e77, sI_ro _ _ _ _ _ (by decide)]; have := FS.1 12 1 (by omega); rw [this, f1.1 12 1 (by decide)])
          have f78 : ∀ q, q ≠ 4 → I78 12 0 q = I1 12 0 q := fun q h => by rw [e78, sI_ot _ _ _ _ h]; exact o77 q
          refine hQ _ _ rfl I78 ⟨MA_put a77 kn e78 (by rw [a77.2.2.2.1, nI_add]; congr 1; omega), by rw [f78 15 (by decide)]; exact S1.2.1, by rw [f78 16 (by decide)]; exact S1.2.2.1, ⟨by rw [f78 17 (by decide)]; exact S1.2.2.2.1.1, by have := S1.2.2.2.1.2; omega⟩, ?_, by rw [f78 14 (by decide)]; exact S1.2.2.2.2.2⟩ ((FS.trans (mF_put (Or.inr rfl) e77)).trans (mF_put (Or.inl ⟨rfl, Or.inr (Or.inr rfl)⟩) e78)) D' (aw_manyn (by omega)) (by omega)
          rw [e78, sI_ro _ _ _ _ _ (by decide), e77]
          refine (rI_same _ _ _ _).trans ?_
          rw [h3]
          rfl
        · show f_X8_readText_B130 _ _ _ _ _ s J
          obtain ⟨h3, h0, aS, FS⟩ := hs
          have ea : (s 12 0 4) + nI q = nI (skp tx n i + q) := by rw [aS.2.2.2.1, nI_add]
          have l := isL_t (hl q hq)
          have eb : eB (bt tx n (skp tx n i + q)) = nI (tx (skp tx n i + q)) := by rw [bt_in (by omega)]; exact if_neg (by omega)
          have ew : (nI (wA p (mMany d p)) + (1 : Int32)) + nI q = nI (wA p (mMany d p) + 1 + q) := by rw [nlit 1, nI_add, nI_add]
          refine q_f (nge hq (by omega)) (m_byte aS _ (by omega) ea ⟨vin _ 1802 (by omega) (by decide) ew, fun I68 e68 j ej => ih I68 j ?_ (by rw [ej, nI_1])⟩)
          rw [cln (by omega) ew, eb, nlit 97, nsub (by omega)] at e68
          have o68 : ∀ q', I68 12 0 q' = s 12 0 q' := fun q' => by rw [e68, sI_ro _ _ _ _ _ (by decide)]
          refine ⟨?_, fun q' => (o68 q').trans (h0 q'), MA_keep aS (o68 3) (o68 4) (o68 5) (by rw [e68]; exact sI_ro _ _ _ _ _ (by decide)), FS.trans (mF_put (Or.inr rfl) e68)⟩
          rw [e68]
          refine (rI_same _ _ _ _).trans ?_
          rw [h3]
          rfl
    · show f_X8_readText_B62 _ _ _ I1 J
      have ea : (I1 12 0 4) + nI q = nI (skp tx n i + q) := by rw [a1.2.2.2.1, nI_add]
      refine m_byte a1 _ (by omega) ea (m_isLetter _ (MA_le a1 _) rfl ?_)
      rw [r.2.2 (skp tx n i + q) (by omega) (by omega)]
      exact q_f (by decide) (fun j ej => ih () j trivial (by rw [ej, nI_1]))
  · have er0 : spRun tx n i = .error (-2, skp tx n i) := if_neg y
    rw [er0, exB_er] at hE
    rw [if_neg y]
    exact q_t rfl (m_report a1 _ a1.2.2.2.1 (by decide) (fun I' er _ _ => hE _ _ rfl I' ((mF_mo f1).ME er)))
theorem m_handL {x1 : Int32} {Q : MI → MJ → Prop} {J : MJ} (hp : p < 4) (e1 : x1 = nI p) : ∀ (f i m : Nat) (d : SD) (I : MI), 9 - mMany d p ≤ f → f ≤ m → MS tx n i d sn hd g I → DW d →
    (∀ k d', spHandL tx n p f i d = .ok (k, d') → ∀ I', MS tx n k d' sn hd g I' → mF I I' → DW d' → Q I' J) → (∀ c' o, spHandL tx n p f i d = .error (c', o) → ∀ I', ME c' o I I' → Q I' J) → f_X8_readHand_L19 x1 Q m I J := by
  intro f
  induction f with
  | zero =>
    intro i m d I h9 _ _ D
    have := (D.2.2.2 p hp).2.1
    omega
  | succ f ih =>
    intro i m d I h9 hfm S D hQ hE
    obtain ⟨m', rfl⟩ : ∃ m', m = m' + 1 := ⟨m - 1, by omega⟩
    show f_X8_readHand_B19 _ _ _ I J
    refine m_text S D hp e1 (fun k d' ek I1 S1 F1 D1 hm1 hm => ?_) (fun c' o ek I' er => bad_good er (q_t rfl (hE c' o (txt_er ek f) I' er)))
    have es : spHandL tx n p (f + 1) i d = if isL (bt tx n (skp tx n k)) = true then spHandL tx n p f (skp tx n k) d' else .ok (skp tx n k, d') := by
      show exB (spTxt tx n p i d) _ = _
      rw [ek]
      rfl
    rw [es] at hQ hE
    refine m_good S1.1 (q_f (by decide) (m_ahead S1.1 (fun I2 a2 f2 _ => m_isLetter _ (MA_le S1.1 _) rfl ?_)))
    have S2 := MS_mo S1 f2 (skp_ok (tx := tx) (n := n) S1.1.2.1).1.1 a2
    by_cases y : isL (bt tx n (skp tx n k)) = true
    · rw [if_pos y] at hQ hE
      rw [y]
      exact q_f (by decide) (ih (skp tx n k) m' d' I2 (by omega) (by omega) S2 D1 (fun k2 d2 e2 I' S' F' => hQ k2 d2 e2 I' S' ((F1.trans (mF_mo f2)).trans F')) (fun c' o e2 I' E' => hE c' o e2 I' ((F1.trans (mF_mo f2)).ME E')))
    · rw [if_neg y] at hQ hE
      rw [Bool.eq_false_iff.mpr y]
      exact q_t rfl (hQ _ _ rfl I2 S2 (F1.trans (mF_mo f2)) D1)
theorem m_hand {I : MI} {J : MJ} {i : Nat} {d : SD} {Q : MI → MJ → Prop} (S : MS tx n i d sn hd g I) (D : DW d)
    (hQ : ∀ k d', spHand tx n i d = .ok (k, d') → ∀ I', MS tx n k d' sn true g I' → mF I I' → DW d' → Q I' J) (hE : ∀ c o, spHand tx n i d = .error (c, o) → ∀ I', ME c o I I' → Q I' J) : f_X8_readHand I J Q := by
  have d1 := D.2.1.2.1
  have e14 : (I 12 3 (1 : Int32).toNatClampNeg) - (1 : Int32) = nI (dn d 1 - 1) := by rw [S.2.2.2.2.1, (D.1 (1 : Int32).toNatClampNeg (okc_lo (by decide))).1, nlit 1]; exact nsub (by show 1 ≤ dn d 1; omega)
  have z0 := skp_ok (tx := tx) (n := n) S.1.2.1
  unfold spHand at hQ hE
  refine ⟨vin 1 _ (by decide) (by decide) rfl, m_number S.1 rfl e14 (by decide) (by omega) (fun k v ek I1 a1 f1 _ l1 l2 lt I5 g5 => ⟨9, ?_⟩) (fun c o ek I' er I5 g5 => ⟨1, ?_⟩)⟩
  · rw [ek, exB_ok] at hQ hE
    have S1 := MS_mo S f1 (show i ≤ k by omega) a1
    have fl : ∀ q, q ≠ 16 → I5 12 0 q = I1 12 0 q := fun q h => by rw [g5]; exact sI_ot _ _ _ _ h
    obtain ⟨s1, s2, s3, s4, s5, s6⟩ := S1
    have S5 : MS tx n k d sn true g I5 := ⟨MA_keep s1 (fl 3 (by decide)) (fl 4 (by decide)) (fl 5 (by decide)) (by rw [g5]; exact sI_ro _ _ _ _ _ (by decide)), by rw [fl 15 (by decide)]; exact s2, by rw [g5, sI_at]; rfl, by rw [fl 17 (by decide)]; exact s4, by rw [g5, sI_ro _ _ _ _ _ (by decide)]; exact s5, by rw [fl 14 (by decide)]; exact s6⟩
    have F5 : mF I I5 := (mF_mo f1).trans (mF_put (Or.inl ⟨rfl, Or.inl (by decide)⟩) g5)
    exact m_handL (by omega) rfl 9 k 9 d I5 (by omega) (Nat.le_refl _) S5 D (fun k' d' e I' S' F' => hQ k' d' e I' S' (F5.trans F')) (fun c o e I' E' => hE c o e I' (F5.ME E'))
  · have er2 := ME_put er (Or.inl ⟨rfl, by decide⟩) g5
    show f_X8_readHand_B19 _ _ _ I5 J
    exact bad_text er2 (bad_good er2 (q_t rfl (hE c o (by rw [ek]; rfl) I5 er2)))
end MH
