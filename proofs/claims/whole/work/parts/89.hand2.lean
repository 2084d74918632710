/-! WORDS OF HANDS, on both sides -/
theorem exB_ok {α β : Type} (a : α) (f : α → Except ERR β) : exB (.ok a) f = f a := rfl
theorem exB_er {α β : Type} (e : ERR) (f : α → Except ERR β) : exB (.error e : Except ERR α) f = .error e := rfl
theorem run_lets {tx : Nat → Nat} {n i k : Nat} (hi : i ≤ n) (e : spRun tx n i = .ok k) : k = rend tx n (skp tx n i) ∧ (∀ q, skp tx n i ≤ q → q < k → isL (tx q) = true) ∧ k ≤ n := by
  have z := skp_ok (tx := tx) (n := n) hi
  have r := rend_ok (tx := tx) (n := n) z.1.2
  unfold spRun at e
  split at e
  · cases e
    exact ⟨rfl, fun q h1 h2 => by have := r.2.2 q h1 h2; rwa [bt_in (by omega)] at this, r.1.2⟩
  · cases e
section KH
variable {tx : Nat → Nat} {n sn g p : Nat} {L : List TK} {hd : Bool}
theorem k_txt {I : MI} {J : MJ} {i : Nat} {d : SD} {x1 x2 : Int32} {K142 K61 K77 K102 : MI → MJ → Prop} {rec : Int32 → MI → MJ → Prop} (S : KS tx n i d L sn hd g I J) (D : DW d) (hp : p < 4) (e1 : x1 = nI p)
    (hQ : ∀ k d', spTxt tx n p i d = .ok (k, d') → ∀ I' J', KS tx n k d' L sn hd g I' J' → kF I I' J J' → DW d' → mMany d' p = mMany d p + 1 → mMany d p < 8 → rec (x2 + 1) I' J')
    (h61 : ∀ c o, spTxt tx n p i d = .error (c, o) → ∀ I', ER c o I I' → K61 I' J) (h77 : ∀ o, spTxt tx n p i d = .error (-3, o) → ∀ I', kF I I' J J → I' 11 4 7 = nI o → K77 I' J) (h102 : ∀ o, spTxt tx n p i d = .error (-5, o) → ∀ I', kF I I' J J → I' 11 4 7 = nI o → K102 I' J) : f_X5_readHand_J54 K142 K61 K77 K102 rec x1 x2 I J := by
  have n6 := S.1.1
  unfold spTxt at hQ h61 h77 h102
  refine k_run S.1 (fun k ek I1 a1 f1 e7 gt => q_f (by decide) ?_) (fun c o ek I' er => q_t rfl (h61 c o (by rw [ek]; rfl) I' er))
  have S1 := KS_fo S f1 a1
  obtain ⟨-, lets, kn⟩ := run_lets S.1.2.1 ek
  rw [ek, exB_ok] at hQ h77 h102
  have es : (I1 11 4 4) - (I1 11 4 7) = nI (k - skp tx n i) := by rw [a1.2.2.2.1, e7]; exact nsub (by omega)
  have vp : vp_in x1 4 := vin p 4 hp (by decide) e1
  have dp := D.2.2.2 p hp
  have em : d (pA p + 1) = nI (mMany d p) := (D.1 _ (okc_pl hp (k := 1) (by decide) (by decide))).1
  have e13 : I1 10 13 p = nI (mMany d p) := (S1.2.2.2.2.1.2.2.2 p hp).1.trans em
  refine q_le (k - skp tx n i) 8 (by omega) (by decide) es rfl (fun h8 => ⟨vp, ?_⟩) (fun h8 => h77 _ (if_pos h8) I1 (kF_fo f1) e7)
  rw [if_neg (by omega)] at hQ h102
  rw [cln (by omega) e1, e13]
  refine q_lt (mMany d p) 8 (by omega) (by decide) rfl rfl (fun hm => ?_) (fun hm => h102 _ (if_pos (by omega)) I1 (kF_fo f1) e7)
  rw [if_neg (by omega)] at hQ
  have hl : ∀ q, q < k - skp tx n i → isL (tx (skp tx n i + q)) = true := fun q hq => lets _ (by omega) (by omega)
  have D' := DW_add (tx := tx) (j := skp tx n i) (n := k - skp tx n i) D hp hm (by omega) hl
  refine k_ofBytes (addW tx d p (skp tx n i) (k - skp tx n i)) (wA p (mMany d p) + 1) (k - skp tx n i) (skp tx n i) h8 (by decide) (by omega) e7 (by rw [a1.2.2.2.1]; congr 1; omega) (fun q hq => ?_) ?_
  · have t := a1.2.2.2.2 (skp tx n i + q) (by omega)
    have l := isL_t (hl q hq)
    have ed : dn (addW tx d p (skp tx n i) (k - skp tx n i)) (wA p (mMany d p) + 1 + q) = tx (skp tx n i + q) - 97 := by
      unfold dn
      rw [aw_let hq]
      exact nI_clamp (by omega)
    rw [ed, t.1]
    exact ⟨by congr 1; omega, by omega⟩
  · have ei : (x1 * (8 : Int32)) + (I1 10 13 x1.toNatClampNeg) = nI (8 * p + mMany d p) := by rw [cln (by omega) e1, e13, e1, nlit 8, nmul, nI_add, Nat.mul_comm]
    refine ⟨vp, ?_⟩
    rw [cln (by omega) e1, e13] at ei ⊢
    refine q_f (nge hm (by decide)) ⟨vp, vin _ 32 (by omega) (by decide) ei, fun J5 e5 => ⟨vp, vp, fun I8 e8 x ex => ?_⟩⟩
    rw [cln (by omega) ei] at e5
    rw [nlit 1, nI_add] at e8
    rw [ex]
    have o10 : ∀ r, r ≠ 13 → I8 10 r = I1 10 r := fun r h => by rw [e8]; exact sI_ro _ _ _ _ _ h
    have o11 : ∀ r, I8 11 r = I1 11 r := fun r => by rw [e8]; unfold sI; exact rI_ne (by omega)
    obtain ⟨s1, s2, s3, s4, s5, s6⟩ := S1
    have lon : ∀ q, q < 306 → dn (addW tx d p (skp tx n i) (k - skp tx n i)) q = dn d q := fun q h => aw_farn (show q ≠ 306 + 74 * p + 1 by omega) (Or.inl (show q < 306 + 74 * p + 2 + 9 * mMany d p by omega))
    refine hQ k _ rfl I8 J5 ⟨KA_keep s1 (by rw [o11]) (by rw [o11]) (o11 5), by rw [o11]; exact s2, by rw [o11]; exact s3, ?_, RR_add D s5 hp hm (by omega) e8 e5, ?_⟩ ((kF_fo f1).trans ⟨fun b r nb _ => by rw [e8]; unfold sI; exact rI_ne (fun y => nb y.1), fun b nb => by funext r; rw [e5]; unfold sJ; exact rJ_ne (fun y => nb y.1), fun q _ => by rw [o11]⟩) D' (aw_manyn (by omega)) hm
    · obtain ⟨gm, g1, g2, g3⟩ := s4
      refine ⟨gm, g1, by rw [o11]; exact g2, fun x hx => ?_⟩
      rw [lon (10 + x) (by omega)]
      exact g3 x hx
    · unfold gTok; rw [o10 2 (by decide), o10 5 (by decide)]; exact s6
theorem txt_er {i : Nat} {d : SD} {c : Int32} {o : Nat} (h : spTxt tx n p i d = .error (c, o)) (f : Nat) : spHandL tx n p (f + 1) i d = .error (c, o) := by
  show exB (spTxt tx n p i d) _ = _
  rw [h]
  rfl
theorem k_handL {x1 : Int32} {Q : Int32 → MI → MJ → Prop} (hp : p < 4) (e1 : x1 = nI p) : ∀ (f i c m : Nat) (d : SD) (I : MI) (J : MJ), 9 - mMany d p ≤ f → f ≤ m → c ≤ mMany d p → KS tx n i d L sn hd g I J → DW d →
    (∀ k d', spHandL tx n p f i d = .ok (k, d') → ∀ I' J', KS tx n k d' L sn hd g I' J' → kF I I' J J' → DW d' → Q 1 I' J') → (∀ c' o, spHandL tx n p f i d = .error (c', o) → ∀ I' J', kE c' o I I' J J' → Q 0 I' J') →
    f_X5_readHand_J54 (fun (I_36 : MI) (J_37 : MJ) => Q (1 : Int32) I_36 J_37) (fun (I_38 : MI) (J_39 : MJ) => Q (0 : Int32) I_38 J_39) (fun (I_40 : MI) (J_41 : MJ) => f_X5_fail (-3 : Int32) (I_40 11 4 7) I_40 J_41 (fun (v_44 : Int32) (I_42 : MI) (J_43 : MJ) => (bo v_44 ∧ Q v_44 I_42 J_43))) (fun (I_46 : MI) (J_47 : MJ) => f_X5_fail (-5 : Int32) (I_46 11 4 7) I_46 J_47 (fun (v_50 : Int32) (I_48 : MI) (J_49 : MJ) => (bo v_50 ∧ Q v_50 I_48 J_49)))
      (f_X5_readHand_L34 x1 (fun (I_36 : MI) (J_37 : MJ) => Q (1 : Int32) I_36 J_37) (fun (I_38 : MI) (J_39 : MJ) => Q (0 : Int32) I_38 J_39) (fun (I_40 : MI) (J_41 : MJ) => f_X5_fail (-3 : Int32) (I_40 11 4 7) I_40 J_41 (fun (v_44 : Int32) (I_42 : MI) (J_43 : MJ) => (bo v_44 ∧ Q v_44 I_42 J_43))) (fun (I_46 : MI) (J_47 : MJ) => f_X5_fail (-5 : Int32) (I_46 11 4 7) I_46 J_47 (fun (v_50 : Int32) (I_48 : MI) (J_49 : MJ) => (bo v_50 ∧ Q v_50 I_48 J_49))) m) x1 (nI c) I J := by
  intro f
  induction f with
  | zero =>
    intro i c m d I J h9 _ _ _ D
    have := (D.2.2.2 p hp).2.1
    omega
  | succ f ih =>
    intro i c m d I J h9 hfm hc S D hQ hE
    refine k_txt S D hp e1 (fun k d' ek I1 J1 S1 F1 D1 hm1 hm => ?_) (fun c' o ek I' er => hE c' o (txt_er ek f) I' J (kE_er er)) (fun o ek I' kf e7 => k_fail o e7 (fun I2 er => ⟨bo0, hE _ o (txt_er ek f) I2 J (kf.kE (kE_er er))⟩)) (fun o ek I' kf e7 => k_fail o e7 (fun I2 er => ⟨bo0, hE _ o (txt_er ek f) I2 J (kf.kE (kE_er er))⟩))
    have es : spHandL tx n p (f + 1) i d = if isL (bt tx n (skp tx n k)) = true then spHandL tx n p f (skp tx n k) d' else .ok (skp tx n k, d') := by
      show exB (spTxt tx n p i d) _ = _
      rw [ek]
      rfl
    rw [es] at hQ hE
    obtain ⟨m', rfl⟩ : ∃ m', m = m' + 1 := ⟨m - 1, by omega⟩
    rw [show nI c + 1 = nI (c + 1) from nI_1 c]
    show f_X5_readHand_B34 x1 _ _ _ _ _ (nI (c + 1)) I1 J1
    refine q_f (fun y => ?_) (q_f (fun y => ?_) (k_peek S1.1 (fun I2 a2 f2 _ _ => k_letterQ _ (bt_le S1.1 _) rfl ?_)))
    · have := (nI_ltI (a := 8) (b := c + 1) (by decide) (by omega)).mp y
      omega
    · have := (nI_eq (a := c + 1) (b := 0) (by omega) (by decide)).mp y
      omega
    · have S2 := KS_fo S1 f2 a2
      by_cases y : isL (bt tx n (skp tx n k)) = true
      · rw [if_pos y] at hQ hE
        rw [y]
        exact q_f (by decide) (ih (skp tx n k) (c + 1) m' d' I2 J1 (by omega) (by omega) (by omega) S2 D1 (fun k2 d2 e2 I' J' S' F' => hQ k2 d2 e2 I' J' S' ((F1.trans (kF_fo f2)).trans F')) (fun c' o e2 I' J' E' => hE c' o e2 I' J' ((F1.trans (kF_fo f2)).kE E')))
      · rw [if_neg y] at hQ hE
        rw [Bool.eq_false_iff.mpr y]
        exact q_t rfl (hQ _ _ rfl I2 J1 S2 (F1.trans (kF_fo f2)) D1)
theorem k_hand {I : MI} {J : MJ} {i : Nat} {d : SD} {Q : Int32 → MI → MJ → Prop} (S : KS tx n i d L sn hd g I J) (D : DW d)
    (hQ : ∀ k d', spHand tx n i d = .ok (k, d') → ∀ I' J', KS tx n k d' L sn true g I' J' → kF I I' J J' → DW d' → Q 1 I' J') (hE : ∀ c o, spHand tx n i d = .error (c, o) → ∀ I' J', kE c o I I' J J' → Q 0 I' J') : f_X5_readHand I J Q := by
  have d1 := D.2.1.2.1
  have e14 : (I 10 1 4) - (1 : Int32) = nI (dn d 1 - 1) := by rw [S.2.2.2.2.1.1.2.1, (D.1 1 (okc_lo (by decide))).1, nlit 1]; exact nsub (by omega)
  unfold spHand at hQ hE
  refine k_number S.1 rfl e14 (by decide) (by omega) (fun k v ek I1 a1 f1 e6 _ l1 l2 _ => q_f (by decide) (fun x1 ex1 I6 g6 => ⟨10, ?_⟩)) (fun c o ek I' er => q_t rfl (hE c o (by rw [ek]; rfl) I' J (kE_er er)))
  rw [ek, exB_ok] at hQ hE
  have S1 := KS_fo S f1 a1
  obtain ⟨s1, s2, s3, s4, s5, s6⟩ := S1
  have fl : ∀ q, q ≠ 9 → I6 11 4 q = I1 11 4 q := fun q h => by rw [g6]; exact sI_ot _ _ _ _ h
  have o10 : ∀ r, I6 10 r = I1 10 r := fun r => by rw [g6]; unfold sI; exact rI_ne (by omega)
  have S6 : KS tx n k d L sn true g I6 J := by
    refine ⟨KA_keep s1 (fl 3 (by decide)) (fl 4 (by decide)) (by rw [g6]; exact sI_ro _ _ _ _ _ (by decide)), by rw [fl 8 (by decide)]; exact s2, by rw [g6, sI_at]; rfl, ?_, ?_, ?_⟩
    · unfold GM; rw [fl 10 (by decide)]; exact s4
    · unfold RR GG; rw [o10 0, o10 1, o10 3, o10 4, o10 8, o10 9, o10 11, o10 13, o10 14]; exact s5
    · unfold gTok; rw [o10 2, o10 5]; exact s6
  have F6 : kF I I6 J J := (kF_fo f1).trans ⟨fun b r nb m => by rw [g6]; unfold sI; exact rI_ne m, fun _ _ => rfl, fun q hq => fl q (by omega)⟩
  have e1 : x1 = nI v := by rw [ex1]; exact e6
  show f_X5_readHand_B34 x1 _ _ _ _ _ 0 I6 J
  exact q_f (by decide) (q_t rfl (k_handL (by omega) e1 9 k 0 9 d I6 J (by omega) (Nat.le_refl _) (Nat.zero_le _) S6 D (fun k' d' e I' J' S' F' => hQ k' d' e I' J' S' (F6.trans F')) (fun c o e I' J' E' => hE c o e I' J' (F6.kE E'))))
end KH
