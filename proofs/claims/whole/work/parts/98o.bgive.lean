/-! GIVE: both sides -/
theorem eB_lt {c : Nat} (h : c < 256) : nI c = eB c := by
  unfold eB
  rw [if_neg (by omega)]
theorem sI_ne {I : MI} {b r i b' r' : Nat} {v : Int32} (h : ¬ (b' = b ∧ r' = r)) : sI I b r i v b' r' = I b' r' := rI_ne h
theorem sI_same (I : MI) (b r i : Nat) (v : Int32) : sI I b r i v b r = upd (I b r) i v := rI_same _ _ _ _
section GV
variable {I : MI} {J : MJ} {tx : Nat → Nat} {n0 n : Nat}
theorem m_areL {x : Int32} {Q : Int32 → MI → MJ → Prop} (hn : n ≤ 600) (e : x = nI n) (hb : ∀ i, i < n → I 12 1 i = nI (tx i) ∧ tx i < 256) (h1 : (∀ q, q < n → isL (tx q) = true) → Q 1 I J) (h0 : ¬ (∀ q, q < n → isL (tx q) = true) → Q 0 I J) : f_X8_areLetters x I J Q := by
  refine ⟨n + 1, up_inv (fun m (_ : Unit) j => f_X8_areLetters_L2 x _ _ m j I J) (fun i _ => ∀ q, q < i → isL (tx q) = true) n (fun m s hs => ?_) (fun m s i hi hs ih => ?_) () (fun q hq => absurd hq (Nat.not_lt_zero q))⟩
  · show f_X8_areLetters_B2 _ _ _ _ _ I J
    exact q_t (by rw [e]; exact Int32.le_refl _) (h1 hs)
  · show f_X8_areLetters_B2 _ _ _ _ _ I J
    refine q_f (by rw [e]; exact nge hi (by omega)) ⟨vin i 600 (by omega) (by decide) rfl, ?_⟩
    rw [nI_clamp (by omega)]
    have b := hb i hi
    refine m_isLetter (tx i) (by omega) (by rw [b.1]; exact eB_lt b.2) ?_
    by_cases q : isL (tx i) = true
    · rw [if_pos q]
      exact q_f (by decide) (fun j ej => ih () j (fun r hr => by
        by_cases z : r = i
        · rw [z]; exact q
        · exact hs r (by omega)) (by rw [ej, nI_1]))
    · rw [if_neg q]
      exact q_t rfl (h0 (fun z => q (z i hi)))
theorem k_starts {x : Int32} {Q : Int32 → MI → MJ → Prop} (h6 : n0 ≤ 600) (e0 : I 11 0 1 = nI n0) (hb : ∀ i, i < n0 → I 11 1 i = nI (tx i) ∧ tx i < 256) (h1 : ∀ n, 1 ≤ n → n ≤ min n0 8 → x = nI n → (∀ q, q < n → isL (tx q) = true) → Q 1 I J) (h0 : (∀ n, 1 ≤ n → n ≤ min n0 8 → x = nI n → ¬ ∀ q, q < n → isL (tx q) = true) → Q 0 I J) : f_X7_startsWithWord x I J Q := by
  have z1 : (1 : Int32).toInt = 1 := by decide
  have z8 : (8 : Int32).toInt = 8 := by decide
  have zn : (nI n0).toInt = n0 := nI_toInt (by omega)
  refine ⟨fun w => h0 (fun n a b en => ?_), fun w => ⟨fun w8 => h0 (fun n a b en => ?_), fun w8 => ⟨fun wn => ?_, fun wn => h0 (fun n a b en => ?_)⟩⟩⟩
  · rw [Int32.lt_iff_toInt_lt, en, nI_toInt (by omega), z1] at w; omega
  · rw [Int32.lt_iff_toInt_lt, en, nI_toInt (by omega), z8] at w8; omega
  · rw [e0] at wn
    rw [Int32.lt_iff_toInt_lt] at w w8
    rw [Int32.le_iff_toInt_le] at wn
    obtain ⟨n, en⟩ : ∃ n : Nat, n = x.toInt.toNat := ⟨_, rfl⟩
    have ex : x = nI n := by rw [en]; exact i_toInt (by omega)
    have n1 : 1 ≤ n ∧ n ≤ min n0 8 := by omega
    refine ⟨n + 1, up_inv (fun m (_ : Unit) j => f_X7_startsWithWord_L23 x _ _ m j I J) (fun i _ => ∀ q, q < i → isL (tx q) = true) n (fun m s hs => ?_) (fun m s i hi hs ih => ?_) () (fun q hq => absurd hq (Nat.not_lt_zero q))⟩
    · show f_X7_startsWithWord_B23 _ _ _ _ _ I J
      exact q_t (by rw [ex]; exact Int32.le_refl _) (h1 n n1.1 n1.2 ex hs)
    · show f_X7_startsWithWord_B23 _ _ _ _ _ I J
      refine q_f (by rw [ex]; exact nge hi (by omega)) ⟨vin i 600 (by omega) (by decide) rfl, ?_⟩
      rw [nI_clamp (by omega)]
      have b := hb i (by omega)
      refine k_letterQ (tx i) (by omega) (by rw [b.1]; exact eB_lt b.2) ?_
      by_cases q : isL (tx i) = true
      · rw [if_pos q]
        exact q_f (by decide) (fun j ej => ih () j (fun r hr => by
          by_cases z : r = i
          · rw [z]; exact q
          · exact hs r (by omega)) (by rw [ej, nI_1]))
      · rw [if_neg q]
        refine q_t rfl (h0 (fun n' a b en' zz => ?_))
        have : n' = n := nij en' ex (by omega) (by omega)
        subst this
        exact q (zz i hi)
  · rw [e0, Int32.le_iff_toInt_le, en, nI_toInt (by omega), zn] at wn; omega
/-- behind a word given: the model -/
def mG (c : Nat) (d' : Nat → Int32) (I I' : MI) : Prop := (∀ b, b ≠ 12 → I' b = I b) ∧ kpH c I I' ∧ I' 12 2 = d' ∧ I' 12 0 0 = 0 ∧ I' 12 0 2 = 0 ∧ I' 12 0 7 = I 12 0 7
theorem mc_give {c : Nat} {x y : Int32} {Q : Int32 → MI → MJ → Prop} (W : WF (I 12 2)) (hc : c ≤ 8) (ec : I 12 0 12 = nI c) (h6 : n0 ≤ 600) (e2 : I 12 0 2 = nI n0) (hb : ∀ i, i < n0 → I 12 1 i = nI (tx i) ∧ tx i < 256)
    (h : ∀ p n, p < dn (I 12 2) 1 → x = nI p → 1 ≤ n → n ≤ min n0 8 → y = nI n → (∀ q, q < n → isL (tx q) = true) → mMany (I 12 2) p < 8 → dn (I 12 2) 6 = 0 → ∀ I', mG c (addW tx (I 12 2) p 0 n) I I' → Q (nI (mMany (I 12 2) p)) I' J)
    (g1 : (∀ p, p < dn (I 12 2) 1 → x ≠ nI p) → ∀ I', mT 1 I I' J J → Q 0 I' J)
    (g2 : ∀ p, p < dn (I 12 2) 1 → x = nI p → (∀ n, 1 ≤ n → n ≤ min n0 8 → y = nI n → ¬ ∀ q, q < n → isL (tx q) = true) → ∀ I', mT 2 I I' J J → Q 0 I' J)
    (g3 : ∀ p n, p < dn (I 12 2) 1 → x = nI p → 1 ≤ n → n ≤ min n0 8 → y = nI n → (∀ q, q < n → isL (tx q) = true) → (mMany (I 12 2) p = 8 ∨ dn (I 12 2) 6 = 1) → ∀ I', mT 3 I I' J J → Q 0 I' J) : f_X8_give x y I J Q := by
  intro I1 e1
  have t := mT_0 (J := J) e1
  have o1 : ∀ b, b ≠ 12 → I1 b = I b := t.1.1
  have row : ∀ r, r ≠ 0 → I1 12 r = I 12 r := fun r hr => by rw [e1]; exact sI_ro _ _ _ _ _ hr
  have f0 : ∀ k, k ≠ 0 → I1 12 0 k = I 12 0 k := fun k hk => t.1.2.2.2.2.1 k hk
  have ec1 : I1 12 0 12 = nI c := (f0 12 (by decide)).trans ec
  have e21 : I1 12 0 2 = nI n0 := (f0 2 (by decide)).trans e2
  have hb1 : ∀ i, i < n0 → I1 12 1 i = nI (tx i) ∧ tx i < 256 := fun i hi => by rw [row 1 (by decide)]; exact hb i hi
  rw [← t.d] at W h g1 g2 g3
  have b4 := wf_pls W
  have b6 : dn (I1 12 2) 6 ≤ 1 := W.2.1.2.2.2.2.2.2.1
  refine m_noPlayer W t.2 (fun p hp ep => q_t rfl ?_) (fun z => q_f (by decide) (g1 z _ (t.put 1)))
  have p4 : p < 4 := by omega
  have m8 := (W.2.2.2 p p4).1
  have bad2 : (∀ n, 1 ≤ n → n ≤ min n0 8 → y = nI n → ¬ ∀ q, q < n → isL (tx q) = true) → f_X8_give_J39 Q x y I1 J := fun z => m_bad1 (by decide) t.2 (by decide) (q_f (by decide) (g2 p hp ep z _ (t.put 2)))
  have key : ∀ v, v = nI (min n0 8) → f_X8_in y 1 v I1 J (fun (v_11 : Int32) (I_9 : MI) (J_10 : MJ) => ((v_11 = (0 : Int32) → f_X8_give_J39 Q x y I_9 J_10) ∧ (¬ v_11 = (0 : Int32) → f_X8_areLetters y I_9 J_10 (fun (v_77 : Int32) (I_75 : MI) (J_76 : MJ) => ((v_77 = (0 : Int32) → f_X8_give_J39 Q x y I_75 J_76) ∧ (¬ v_77 = (0 : Int32) → f_X8_give_J44 Q x y (0 : Int32) I_75 J_76)))))) := by
    intro v ev
    refine m_rng (lo := 1) (hi := min n0 8) (by omega) (by decide) rfl ev (fun n n1 n2 en => q_f (by decide) ?_) (fun z => q_t rfl (bad2 (fun n a b en => absurd en (z n a b))))
    refine m_areL (tx := tx) (n := n) (by omega) en (fun i hi => hb1 i (by omega)) (fun hl => q_f (by decide) (m_good0 t.2 (q_t rfl ?_))) (fun z => q_t rfl (bad2 (fun n' a b en' zz => z (by rw [nij en en' (by omega) (by omega)]; exact zz))))
    have bad3 : (mMany (I1 12 2) p = 8 ∨ dn (I1 12 2) 6 = 1) → f_X8_give_J74 Q x y I1 J := fun z => m_bad1 (by decide) t.2 (by decide) (q_f (by decide) (g3 p n hp ep n1 n2 en hl z _ (t.put 3)))
    have c6 : (6 : Int32).toNatClampNeg = 6 := by decide
    refine m_many W p ep p4 (q_eq (mMany (I1 12 2) p) 8 (by omega) (by decide) rfl rfl (fun q => bad3 (Or.inl q)) (fun q => ⟨vin 6 1802 (by decide) (by decide) rfl, ?_⟩))
    rw [c6]
    refine q_eq (dn (I1 12 2) 6) 1 (by omega) (by decide) (wf_c W (okc_lo (i := 6) (by decide))) rfl (fun q => bad3 (Or.inr q)) (fun q6 => m_good0 t.2 (q_t rfl (m_remember hc ec1 (fun Ik kk I5 e5 => ?_))))
    have k2 : Ik 12 2 = I1 12 2 := kk.2.2.1
    have q52 : I5 12 2 = I1 12 2 := by rw [e5, sI_ro _ _ _ _ _ (by decide)]; exact k2
    have q51 : I5 12 1 = I1 12 1 := by rw [e5, sI_ro _ _ _ _ _ (by decide)]; exact kk.2.1
    have hm : mMany (I1 12 2) p < 8 := by omega
    have n8 : n ≤ 8 := by omega
    generalize hA : wA p (mMany (I1 12 2) p) = a at *
    have ea : a = 306 + 74 * p + 2 + 9 * mMany (I1 12 2) p := hA.symm
    refine m_many (by rw [q52]; exact W) p ep p4 ?_
    rw [q52]
    refine m_wordAt p (mMany (I1 12 2) p) ep rfl ?_
    rw [hA]
    refine ⟨vin a 1802 (by omega) (by decide) rfl, fun I53 e53 => ⟨n + 1, ?_⟩⟩
    rw [nI_clamp (by omega), en] at e53
    rw [en]
    refine up_inv (fun m (s : MI) j => f_X8_give_L122 (nI n) (nI a) _ m j s J) (fun i s => s = rI I5 12 2 (ltr tx a 0 (upd (I1 12 2) a (nI n)) i)) n (fun m s hs => ?_) (fun m s i hi hs ih => ?_) I53 ?_
    · show f_X8_give_B122 _ _ _ _ _ s J
      refine q_t (Int32.le_refl _) (m_playerAt p ep ?_)
      have ep1 : nI (pA p) + (1 : Int32) = nI (pA p + 1) := by rw [nlit 1, nI_add]
      have cp1 : (nI (pA p) + (1 : Int32)).toNatClampNeg = pA p + 1 := cln (show 306 + 74 * p + 1 < 2 ^ 31 by omega) ep1
      have v1 : vp_in (nI (pA p) + (1 : Int32)) 1802 := vin (pA p + 1) 1802 (show 306 + 74 * p + 1 < 1802 by omega) (by decide) ep1
      refine ⟨v1, v1, fun I71 e71 => ?_⟩
      have sm : s 12 2 (pA p + 1) = nI (mMany (I1 12 2) p) := by
        rw [hs, rI_same, ltr_out n (Or.inl (show 306 + 74 * p + 1 < a + 1 by omega)), upd_ot _ _ (show 306 + 74 * p + 1 ≠ a by omega)]
        exact wf_c W (okc_pl p4 (k := 1) (by decide) (by decide))
      have e : I71 = rI I5 12 2 (addW tx (I1 12 2) p 0 n) := by
        rw [e71, cp1, sm, nlit 1, nI_add]
        show rI s 12 2 (upd (s 12 2) (pA p + 1) (nI (mMany (I1 12 2) p + 1))) = _
        rw [hs, rI_same, rI_rI]
        unfold addW
        rw [hA]
      rw [e]
      have z := kp_put (d' := addW tx (I1 12 2) p 0 n) kk
      have rr : ∀ r, r ≠ 0 → rI I5 12 2 (addW tx (I1 12 2) p 0 n) 12 r = rI Ik 12 2 (addW tx (I1 12 2) p 0 n) 12 r := fun r hr => by
        by_cases q2 : r = 2
        · rw [q2, rI_same, rI_same]
        · rw [rI_ne (fun z => q2 z.2), rI_ne (fun z => q2 z.2), e5, sI_ro _ _ _ _ _ hr]
      have r0 : ∀ k, k ≠ 2 → rI I5 12 2 (addW tx (I1 12 2) p 0 n) 12 0 k = Ik 12 0 k := fun k hk => by rw [rI_ne (by omega), e5, sI_ot _ _ _ _ hk]
      refine h p n hp ep n1 n2 en hl hm (by omega) _ ⟨fun b hbb => ?_, ⟨?_, fun hc' => ?_, fun hc' => ?_⟩, rI_same _ _ _ _, ?_, ?_, ?_⟩
      · funext r
        rw [rI_ne (fun z => hbb z.1), e5]
        unfold sI
        rw [rI_ne (fun z => hbb z.1), kk.1 b hbb, o1 b hbb]
      · rw [r0 12 (by decide)]; exact kk.2.2.2.2.2.1
      · have w := z.1.2.1 hc'
        exact ⟨by rw [← row 2 (by decide), rr _ (by omega)]; exact w.1, fun k hk => by rw [rr _ (by omega), w.2 k hk, row _ (by omega)]⟩
      · have w := z.1.2.2 hc'
        refine ⟨by rw [← row 2 (by decide), rr _ (by omega)]; exact w.1, fun k hk => ?_⟩
        have w2 := w.2 k hk
        rw [row _ (by omega)] at w2
        rw [rr _ (by omega)]; exact w2
      · rw [r0 0 (by decide), kk.2.2.2.2.1 0 (by decide)]; exact t.2
      · rw [rI_ne (by omega), e5, sI_at]
      · rw [r0 7 (by decide), kk.2.2.2.2.1 7 (by decide), f0 7 (by decide)]
    · show f_X8_give_B122 _ _ _ _ _ s J
      have ei : (nI a + (1 : Int32)) + nI i = nI (a + 1 + i) := by rw [nlit 1, nI_add, nI_add]
      refine q_f (nge hi (by omega)) ⟨vin i 600 (by omega) (by decide) rfl, vin (a + 1 + i) 1802 (by omega) (by decide) ei, fun I62 e62 j ej => ih I62 j ?_ (by rw [ej, nI_1])⟩
      have l := isL_t (hl i hi)
      have s1 : s 12 1 i = nI (tx i) := by rw [hs, rI_ne (by omega), q51]; exact (hb1 i (by omega)).1
      rw [cln (by omega) ei, nI_clamp (show i < 2 ^ 31 by omega), s1, nlit 97, nsub l.1] at e62
      rw [e62]
      show rI s 12 2 (upd (s 12 2) (a + 1 + i) (nI (tx i - 97))) = rI I5 12 2 (upd (ltr tx a 0 (upd (I1 12 2) a (nI n)) i) (a + 1 + i) (nI (tx (0 + i) - 97)))
      rw [hs, rI_same, rI_rI, Nat.zero_add]
    · rw [e53]
      show rI I5 12 2 (upd (I5 12 2) a (nI n)) = rI I5 12 2 (upd (I1 12 2) a (nI n))
      rw [q52]
  refine q_le n0 8 (by omega) (by decide) e21 rfl (fun q => key _ (by rw [e21]; congr 1; omega)) (fun q => key _ (by rw [show min n0 8 = 8 by omega]; rfl))
theorem b_give {x y : Int32} (V : INV I J) : f_X7_give x y I J (AG (f_X8_give x y)) (XR [1, 0, 3] (f_X8_give x y)) := by
  obtain ⟨⟨W, Lv, C⟩, ⟨c, nx, H⟩, ⟨n0, h6, b1, b2, b3⟩, e⟩ := id V
  obtain ⟨hc, hn, ec, a2, a3, -⟩ := id H
  have b4 := wf_pls W
  have b6 : dn (I 12 2) 6 ≤ 1 := W.2.1.2.2.2.2.2.2.1
  have hB : ∀ i, i < n0 → I 11 1 i = nI ((I 11 1 i).toNatClampNeg) ∧ I 12 1 i = nI ((I 11 1 i).toNatClampNeg) ∧ (I 11 1 i).toNatClampNeg < 256 := fun i hi => by
    obtain ⟨v, hv, e1, e2⟩ := b3 i hi
    have : (I 11 1 i).toNatClampNeg = v := by rw [e1]; exact nI_clamp (by omega)
    rw [this]
    exact ⟨e1, e2, hv⟩
  obtain ⟨tx, htx⟩ : ∃ tx : Nat → Nat, tx = fun i => (I 11 1 i).toNatClampNeg := ⟨_, rfl⟩
  have hK : ∀ i, i < n0 → I 11 1 i = nI (tx i) ∧ tx i < 256 := fun i hi => by rw [htx]; exact ⟨(hB i hi).1, (hB i hi).2.2⟩
  have hM : ∀ i, i < n0 → I 12 1 i = nI (tx i) ∧ tx i < 256 := fun i hi => by rw [htx]; exact ⟨(hB i hi).2.1, (hB i hi).2.2⟩
  refine k_player W C (fun p hp ep => ?_) (fun z => ⟨0, rfl, mc_give (tx := tx) W hc ec h6 b2 hM (fun p n hp ep => absurd ep (z p hp)) (fun _ I' t => bad_of (by decide +kernel) ⟨t.2, INV_m V t.1⟩) (fun p hp ep => absurd ep (z p hp)) (fun p n hp ep => absurd ep (z p hp))⟩)
  have p4 : p < 4 := by omega
  have m8 := (W.2.2.2 p p4).1
  have sp : ∀ p', p' < dn (I 12 2) 1 → x = nI p' → p' = p := fun p' h e => nij e ep (by omega) (by omega)
  refine k_starts (tx := tx) h6 b1 hK (fun n n1 n2 en hl => q_f (by decide) ?_) (fun z => q_t rfl ⟨1, rfl, mc_give (tx := tx) W hc ec h6 b2 hM (fun p' n hp' ep' a b en hl => absurd hl (z n a b en)) (fun z2 => absurd ep (z2 p hp)) (fun _ _ _ _ I' t => bad_of (by decide +kernel) ⟨t.2, INV_m V t.1⟩) (fun p' n hp' ep' a b en hl => absurd hl (z n a b en))⟩)
  have sn : ∀ n', n' ≤ min n0 8 → y = nI n' → n' = n := fun n' h e => nij e en (by omega) (by omega)
  have bad3 : (mMany (I 12 2) p = 8 ∨ dn (I 12 2) 6 = 1) → XR [1, 0, 3] (f_X8_give x y) 3 I J := fun zz => ⟨2, rfl, mc_give (tx := tx) W hc ec h6 b2 hM (fun p' n' hp' ep' a b en' hl' hm' h6' => by
      rw [sp p' hp' ep'] at hm'
      omega) (fun z2 => absurd ep (z2 p hp)) (fun p' hp' ep' z => absurd hl (z n n1 n2 en)) (fun _ _ _ _ _ _ _ _ _ I' t => bad_of (by decide +kernel) ⟨t.2, INV_m V t.1⟩)⟩
  have em := e_many W C hp
  refine ⟨vin p 4 p4 (by decide) ep, ?_⟩
  rw [cln (by omega) ep, em]
  refine q_le 8 (mMany (I 12 2) p) (by decide) (by omega) rfl rfl (fun q => bad3 (Or.inl (by omega))) (fun hm => q_eq (dn (I 12 2) 6) 0 (by omega) (by decide) (RC_over W C) rfl (fun q0 => ?_) (fun q0 => bad3 (Or.inr (by omega))))
  refine k_keep W C hc hn a2 a3 (fun Ik Jk kk => ?_)
  have g0 : Ik 0 = I 0 := kk.2.1 0 (by omega) (by decide)
  have j0 : Jk 0 = J 0 := kk.2.2.2.2.2 0 (by omega)
  have n8 : 1 ≤ n ∧ n ≤ 8 := by omega
  -- the word
  have lets : ∀ q, q < n → dn (addW tx (I 12 2) p 0 n) (wA p (mMany (I 12 2) p) + 1 + q) = tx q - 97 := fun q hq => by
    have l := isL_t (hl q hq)
    unfold dn
    rw [aw_let hq, Nat.zero_add, nI_clamp (by omega)]
  refine k_ofBytes (addW tx (I 12 2) p 0 n) (wA p (mMany (I 12 2) p) + 1) n 0 n8.2 (by decide) (by omega) rfl (by rw [Nat.zero_add]; exact en) (fun q hq => ?_) ?_
  · have l := isL_t (hl q hq)
    rw [lets q hq, kk.2.2.1 1 (by decide), Nat.zero_add, (hK q (by omega)).1, show 97 + (tx q - 97) = tx q by omega]
    exact ⟨rfl, by omega⟩
  have v4 : vp_in x 4 := vin p 4 p4 (by decide) ep
  have cp : x.toNatClampNeg = p := cln (by omega) ep
  have e13 : Ik 0 13 p = nI (mMany (I 12 2) p) := by rw [g0]; exact em
  refine ⟨v4, ?_⟩
  rw [cp, e13]
  refine q_f (nge hm (by decide)) ⟨v4, ?_⟩
  have e8 : x * (8 : Int32) + nI (mMany (I 12 2) p) = nI (8 * p + mMany (I 12 2) p) := by rw [ep, nlit 8, nmul, nI_add, Nat.mul_comm]
  refine ⟨vin (8 * p + mMany (I 12 2) p) 32 (by omega) (by decide) e8, fun J5 eJ5 => ⟨v4, v4, fun I8 e8' I17 e17 => ⟨v4, ?_⟩⟩⟩
  rw [cln (by omega) e8] at eJ5
  rw [nlit 1, nI_add] at e8'
  have r13 : I17 0 13 p = nI (mMany (I 12 2) p + 1) := by rw [e17, sI_ne (by omega), e8', sI_at]
  rw [r13, nlit 1, nsub (by omega), Nat.add_sub_cancel]
  have o17 : ∀ b r, ¬ (b = 0 ∧ r = 13) → ¬ (b = 11 ∧ r = 0) → I17 b r = Ik b r := fun b r h1 h2 => by
    rw [e17, e8']
    unfold sI
    rw [rI_ne h2, rI_ne h1]
  have blk : ∀ b, b ≠ 0 → b ≠ 11 → I17 b = Ik b := fun b h h' => by funext r; exact o17 b r (fun z => h z.1) (fun z => h' z.1)
  have C17 : RC I17 J5 0 (addW tx (I 12 2) p 0 n) := RC_add W C p4 hm n8 (fun r hr => by rw [o17 0 r (by omega) (by omega), g0]) (fun q => by
      rw [e17, sI_ne (by omega)]
      by_cases z : q = p
      · rw [z, if_pos rfl, e8', sI_at]
      · rw [if_neg z, e8', sI_ot _ _ _ _ z, g0]) (fun r hr => by
      rw [eJ5]
      unfold sJ
      rw [rJ_ne (fun z => hr z.2), j0]) (fun q => by
      rw [eJ5]
      by_cases z : q = 8 * p + mMany (I 12 2) p
      · rw [z, if_pos rfl, sJ_at]
      · rw [if_neg z, sJ_ot _ _ _ _ z, j0])
  have i12 : I17 12 = I 12 := by rw [blk 12 (by decide) (by decide), kk.2.1 12 (by omega) (by decide)]
  have W' : WF (addW tx (I 12 2) p 0 n) := WF_add W p4 hm n8 (fun q hq => by rw [Nat.zero_add]; exact hl q hq)
  intro J9 e9 e10
  refine mc_give (c := c) (tx := tx) (n0 := n0) (by rw [i12]; exact W) hc (by rw [i12]; exact ec) h6 (by rw [i12]; exact b2) (fun i hi => by rw [i12]; exact hM i hi) (fun p' n' hp' ep' a b en' hl' hm' h6' I2 m => ?_) (fun z => absurd ep (z p (by rw [i12]; exact hp))) (fun p' hp' ep' z => absurd hl (z n n1 n2 en)) (fun p' n' hp' ep' a b en' hl' z => ?_)
  · rw [i12] at hp' m ⊢
    have s1 := sp p' hp' ep'
    have s2 := sn n' b en'
    subst s1 s2
    obtain ⟨m1, m2, m3, m4, m5, m6⟩ := m
    refine post_of e10 ⟨m4, rfl, ?_, rfl⟩
    generalize hI0 : sI I 11 0 1 0 = I0
    have z0 : ∀ b r, ¬ (b = 11 ∧ r = 0) → I0 b r = I b r := fun b r h => by rw [← hI0]; unfold sI; exact rI_ne h
    have zb : ∀ b, b ≠ 11 → I0 b = I b := fun b h => by funext r; exact z0 b r (fun z => h z.1)
    have H0 : HI I0 J c nx := HI_fr H (fun b _ h => zb b (by omega)) (fun _ _ _ => rfl) (z0 11 2 (by omega)) (fun k hk => by rw [zb 12 (by decide)]) (by rw [zb 12 (by decide)])
    have k1 : kcC (I0 12 2) c nx I0 I17 J J5 := by
      rw [zb 12 (by decide)]
      obtain ⟨y1, y2, y3, y4, y5, y6⟩ := kk
      have j5 : ∀ b, b ≠ 0 → J5 b = Jk b := fun b hb => by
        funext r
        rw [eJ5]
        unfold sJ
        exact rJ_ne (fun z => hb z.1)
      refine ⟨RC_blk y1 (blk _ (by omega) (by omega)) (j5 _ (by omega)), fun b h1 h2 h3 => by rw [blk b h1 h3, y2 b h2 h3, zb b h3], fun r hr => ?_, ?_, ?_, fun b h1 h2 => by rw [j5 b h1, y6 b h2]⟩
      · by_cases q : r = 0
        · subst q
          rw [e17, ← hI0, sI_same, sI_same, e8', sI_ne (by omega), y3 0 (by decide)]
        · rw [o17 11 r (by omega) (by omega), y3 r hr, z0 11 r (by omega)]
      · rw [o17 11 2 (by omega) (by omega)]; exact y4
      · rw [o17 11 2 (by omega) (by omega)]; exact y5
    refine INV_change (I := I0) (J := x13 J J9) (by rw [zb 12 (by decide)]; exact W) (by rw [zb 12 (by decide)]; exact Lv) (HI_13 H0) (kc_13 hn k1 e9) m2 m1 (fun _ _ => rfl) (by rw [m3]; exact W') (by rw [m3]; exact LV_add Lv) (by rw [m3]; exact RC_blk C17 rfl (e9 0 (by decide))) (BU_0 ?_ m5) ?_
    · rw [m1 11 (by decide), e17, sI_at]
    · rw [m1 11 (by decide), m6, i12, e17, sI_ot _ _ _ _ (by decide), e8', sI_ne (by omega), kk.2.2.1 0 (by decide)]; exact e
  · rw [i12] at hp' z
    rw [sp p' hp' ep'] at z
    omega
end GV
