/-! GROUPS OF LETTERS, on both sides; statements of one number, the model -/
theorem up_mem2 {σ : Type} (Lp : Nat → σ → Prop) (Inv : Nat → σ → Prop) (i k : Nat) (hik : i ≤ k) (hend : ∀ (m : Nat) (s : σ), Inv k s → Lp (m + 1) s)
    (hstep : ∀ (m : Nat) (s : σ) (q : Nat), i ≤ q → q < k → Inv q s → (∀ s' : σ, Inv (q + 1) s' → Lp (m + 1) s') → Lp (m + 2) s) (s : σ) (h : Inv i s) : Lp (k - i + 1) s := by
  have key : ∀ r q : Nat, i ≤ q → q + r = k → ∀ s, Inv q s → Lp (r + 1) s := by
    intro r
    induction r with
    | zero =>
      intro q _ hq s hs
      have : q = k := by omega
      subst this
      exact hend 0 s hs
    | succ r ih =>
      intro q h0 hq s hs
      exact hstep r s q h0 (by omega) hs (fun s' hs' => ih (q + 1) (by omega) (by omega) s' hs')
  exact key (k - i) i (Nat.le_refl _) (by omega) s h
def RRo (I : MI) (J : MJ) (d : SD) : Prop :=
  (I 10 1 3 = d 0 ∧ I 10 1 4 = d 1 ∧ I 10 1 5 = d 2 ∧ I 10 1 6 = d 3 ∧ I 10 1 7 = d 4 ∧ I 10 0 9 = 0 ∧ I 10 0 10 = 0 ∧ I 10 0 11 = 0) ∧
  (∀ r, r < 6 → I 10 8 r = 0 ∧ I 10 9 r = 0 ∧ I 10 11 r = -1 ∧ J 10 10 r = 0 ∧ (r < dn d 0 → I 10 3 r = d (rA r))) ∧
  ∀ p, p < 4 → I 10 13 p = d (pA p + 1) ∧ I 10 14 p = 0 ∧ ∀ k, k < mMany d p → J 10 12 (8 * p + k) = lN (pkN d (wA p k + 1) (mLen d p k))
theorem RRo_low {I I' : MI} {J : MJ} {d : SD} {c : Nat} {v : Int32} (R : RRo I J d) (hc : 8 ≤ c ∧ c < 36) (o : ∀ r, r ≠ 4 → I' 10 r = I 10 r) : RRo I' J (upd d c v) := by
  obtain ⟨A, R, P⟩ := R
  have u : ∀ k, k ≠ c → upd d c v k = d k := fun k q => upd_ot _ _ q
  refine ⟨?_, fun r hr => ?_, fun p hp => ?_⟩
  · rw [o 1 (by decide), o 0 (by decide), u 0 (by omega), u 1 (by omega), u 2 (by omega), u 3 (by omega), u 4 (by omega)]
    exact A
  · rw [o 8 (by decide), o 9 (by decide), o 11 (by decide), o 3 (by decide), u _ (show 36 + 45 * r ≠ c by omega), dn_ot d _ (show (0 : Nat) ≠ c by omega)]
    exact R r hr
  · obtain ⟨p1, p2, p3⟩ := P p hp
    have ge : ∀ k, pA p + k ≠ c := fun k => by show 306 + 74 * p + k ≠ c; omega
    have em : mMany (upd d c v) p = mMany d p := dn_ot d _ (ge 1)
    rw [o 13 (by decide), o 14 (by decide), u _ (ge 1), em]
    refine ⟨p1, p2, fun k hk => ?_⟩
    have el : mLen (upd d c v) p k = mLen d p k := dn_ot d _ (show 306 + 74 * p + 2 + 9 * k ≠ c by omega)
    rw [el, pk_upd (Or.inl (show c < 306 + 74 * p + 2 + 9 * k + 1 by omega))]
    exact p3 k hk
section KAL
variable {I : MI} {J : MJ} {tx : Nat → Nat} {n i sn g : Nat} {d : SD} {L : List TK} {hd : Bool}
def alS (tx : Nat → Nat) (n sn g j k f : Nat) (hd : Bool) (L : List TK) (d0 : SD) (I : MI) (J : MJ) (q : Nat) (s : MI) : Prop :=
  ∃ dq : SD, spAlL tx (g + 1) (k - q) q dq = spAlL tx (g + 1) (k - j) j d0 ∧ DW dq ∧ KA tx n k s ∧ (sn < 32 ∧ s 11 4 8 = nI sn) ∧ s 11 4 9 = (if hd then 1 else 0) ∧ GM s dq ∧ gTok s 10 L ∧ RRo s J dq ∧ alI tx g j q f dq s ∧ kF I s J J
theorem k_alike {Q : Int32 → MI → MJ → Prop} (S : KS tx n i d L sn hd g I J) (D : DW d) (hg : g ≤ 600)
    (hQ : ∀ k d', spAlike tx n i d g = .ok (k, d') → ∀ I' J', KS tx n k d' L sn hd (g + 1) I' J' → kF I I' J J' → Q 1 I' J') (hE : ∀ c o, spAlike tx n i d g = .error (c, o) → ∀ I' J', kE c o I I' J J' → Q 0 I' J') : f_X5_readAlike I J Q := by
  have n6 := S.1.1
  unfold spAlike at hQ hE
  refine k_run S.1 (fun k ek I1 a1 f1 e7 gt => q_f (by decide) ?_) (fun c o ek I' er => q_t rfl (hE c o (by rw [ek]; rfl) I' J (kE_er er)))
  have S1 := KS_fo S f1 a1
  have kn := a1.2.1
  have lets : ∀ q, skp tx n i ≤ q → q < k → isL (tx q) = true := fun q h1 h2 => by
    unfold spRun at ek
    split at ek
    · cases ek
      have := (rend_ok (tx := tx) (n := n) (skp_ok (tx := tx) (n := n) S.1.2.1).1.2).2.2 q h1 h2
      rwa [bt_in (by omega)] at this
    · cases ek
  rw [ek] at hQ hE
  have v7 : vp_in (I1 11 4 7) 600 := vin _ 600 (by omega) (by decide) e7
  have lj := isL_t (lets _ (Nat.le_refl _) gt)
  refine ⟨v7, fun x1 ex1 x2 ex2 => ⟨k - skp tx n i + 1, ?_⟩⟩
  rw [cln (by omega) e7, (a1.2.2.2.2 (skp tx n i) (by omega)).1] at ex1
  have q1 : x1 = nI (tx (skp tx n i) - 97 + 1) := by rw [ex1, nlit 97, nlit 1, nsub lj.1, nI_add]
  rw [ex2, e7]
  refine up_invF (fun m (s : MI) y => f_X5_readAlike_L29 x1 (fun I_20 J_21 => Q 1 I_20 J_21) (fun x2_22 I_23 J_24 => f_X5_fail (-4) x2_22 I_23 J_24 (fun v_27 I_25 J_26 => (bo v_27 ∧ Q v_27 I_25 J_26))) m y s J) (fun q s => alS tx n sn g (skp tx n i) k (tx (skp tx n i) - 97) hd L d I1 J q s) (skp tx n i) k (by omega) (fun m s hs => ?_) (fun m s q h1 h2 hs ih => ?_) I1 ⟨d, rfl, D, S1.1, S1.2.1, S1.2.2.1, S1.2.2.2.1, S1.2.2.2.2.2, ⟨S1.2.2.2.2.1.1, S1.2.2.2.2.1.2.2⟩, al_start S1.2.2.2.2.1.2.1, kF.rfl⟩
  · show f_X5_readAlike_B29 _ _ _ _ _ s J
    obtain ⟨dq, es, Dq, s1, s2, s3, s4, s6, so, al, kf⟩ := hs
    rw [Nat.sub_self] at es
    exact q_t (by rw [s1.2.2.2.1]; exact Int32.le_refl _) (hQ k dq (by show exB (spAlL tx (g + 1) (k - skp tx n i) (skp tx n i) d) _ = _; rw [← es]; rfl) s J ⟨s1, s2, s3, s4, ⟨so.1, al_end al, so.2⟩, s6⟩ ((kF_fo f1).trans kf))
  · show f_X5_readAlike_B29 _ _ _ _ _ s J
    obtain ⟨dq, es, Dq, s1, s2, s3, s4, s6, so, al, kf⟩ := hs
    obtain ⟨gm, gl, ge, gb⟩ := s4
    have lq := isL_t (lets q h1 h2)
    have sq := s1.2.2.2.2 q (by omega)
    refine q_f (by rw [s1.2.2.2.1]; exact nge h2 (by omega)) ⟨vin q 600 (by omega) (by decide) rfl, fun x3 ex3 => ?_⟩
    rw [nI_clamp (show q < 2 ^ 31 by omega), sq.1] at ex3
    have q3 : x3 = nI (tx q - 97 + 1) := by rw [ex3, nlit 97, nlit 1, nsub lq.1, nI_add]
    have b27 : 2 ^ (tx q - 97 + 1) < 2 ^ 27 := Nat.pow_lt_pow_right (by decide) (by omega)
    have bit := gb (tx q - 97) (by omega)
    have es2 : spAlL tx (g + 1) (k - q) q dq = if dn dq (10 + (tx q - 97)) = 0 then spAlL tx (g + 1) (k - (q + 1)) (q + 1) (upd dq (10 + (tx q - 97)) (nI (g + 1))) else .error (-4, q) := by
      rw [show k - q = (k - (q + 1)) + 1 by omega]
      rfl
    have ea : ((s 11 4 10) &&& ((1 : Int32) <<< (x3 &&& 31))) = nI (gm &&& 2 ^ (tx q - 97 + 1)) := by rw [ge, q3, sh_27 _ (by omega), n_and (by omega) (by omega)]
    have eo : ((s 11 4 10) ||| ((1 : Int32) <<< (x3 &&& 31))) = nI (gm ||| 2 ^ (tx q - 97 + 1)) := by rw [ge, q3, sh_27 _ (by omega), n_or (by omega) (by omega)]
    rw [ea, eo]
    by_cases z : dn dq (10 + (tx q - 97)) = 0
    · rw [if_pos z] at es2
      have b0 : gm.testBit (tx q - 97 + 1) = false := by rw [bit]; exact decide_eq_false (fun y => y z)
      have a0 : gm &&& 2 ^ (tx q - 97 + 1) = 0 := by rw [and_pow, b0]; rfl
      rw [a0]
      refine q_t rfl (fun I16 e16 => ⟨vin _ 32 (by omega) (by decide) q3, fun I18 e18 y ey => ih I18 y ?_ (by rw [ey, nI_1])⟩)
      rw [cln (by omega) q3, q1] at e18
      have o : ∀ r, r ≠ 4 → I18 10 r = s 10 r := fun r h => by rw [e18, sI_ro _ _ _ _ _ h, e16]; unfold sI; exact rI_ne (by omega)
      have o4 : I18 10 4 = upd (s 10 4) (tx q - 97 + 1) (nI (tx (skp tx n i) - 97 + 1)) := by
        rw [e18]
        refine (rI_same _ _ _ _).trans ?_
        rw [e16]
        unfold sI
        rw [rI_ne (by omega)]
      have o11 : ∀ r, r ≠ 4 → I18 11 r = s 11 r := fun r h => by rw [e18]; unfold sI; rw [rI_ne (by omega), e16]; exact sI_ro _ _ _ _ _ h
      have f4 : ∀ r, r ≠ 10 → I18 11 4 r = s 11 4 r := fun r h => by rw [e18]; unfold sI; rw [rI_ne (by omega), e16]; exact sI_ot _ _ _ _ h
      have f10 : I18 11 4 10 = nI (gm ||| 2 ^ (tx q - 97 + 1)) := by rw [e18]; unfold sI; rw [rI_ne (by omega), e16]; exact sI_at _ _ _ _ _
      refine ⟨upd dq (10 + (tx q - 97)) (nI (g + 1)), by rw [← es2]; exact es, DW_low Dq (by omega) (by omega), KA_keep s1 (f4 3 (by decide)) (f4 4 (by decide)) (o11 5 (by decide)), by rw [f4 8 (by decide)]; exact s2, by rw [f4 9 (by decide)]; exact s3, ⟨gm ||| 2 ^ (tx q - 97 + 1), Nat.or_lt_two_pow gl b27, f10, fun x hx => ?_⟩, ?_, RRo_low so (by omega) o, al_step al (by omega) (by omega) (by omega) (fun v => by rw [v]) h1 z o4, kf.trans ⟨fun b r nb m => ?_, fun _ _ => rfl, fun r hr => f4 r (by omega)⟩⟩
      · rw [Nat.testBit_or, Nat.testBit_two_pow]
        by_cases v : x = tx q - 97
        · rw [v, dn_at dq (by omega), decide_eq_true (rfl : tx q - 97 + 1 = tx q - 97 + 1), Bool.or_true]
          exact (decide_eq_true (by omega)).symm
        · rw [dn_ot dq _ (by omega), gb x hx, decide_eq_false (show ¬ (tx q - 97 + 1 = x + 1) by omega), Bool.or_false]
      · unfold gTok; rw [o 2 (by decide), o 5 (by decide)]; exact s6
      · rw [e18]; unfold sI; rw [rI_ne (fun y => nb y.1), e16]; unfold sI; exact rI_ne m
    · rw [if_neg z] at es2
      have b1 : gm.testBit (tx q - 97 + 1) = true := by rw [bit]; exact decide_eq_true z
      have a1' : gm &&& 2 ^ (tx q - 97 + 1) = 2 ^ (tx q - 97 + 1) := by rw [and_pow, b1]; rfl
      have pk := Nat.two_pow_pos (tx q - 97 + 1)
      rw [a1']
      exact q_eq (2 ^ (tx q - 97 + 1)) 0 (by omega) (by decide) rfl rfl (fun y => absurd y (by omega)) (fun _ => k_fail q rfl (fun I' er => ⟨bo0, hE (-4) q (by show exB (spAlL tx (g + 1) (k - skp tx n i) (skp tx n i) d) _ = _; rw [← es, es2]; rfl) I' J (((kF_fo f1).trans kf).kE (kE_er er))⟩))
end KAL
section MAL
variable {I : MI} {J : MJ} {tx : Nat → Nat} {n i sn g : Nat} {d : SD} {hd : Bool}
theorem m_val {x1 x2 x3 x4 x5 : Int32} {Q : MI → MJ → Prop} {bit lo hi c j : Nat} (S : MS tx n i d sn hd g I) (hb : bit < 5) (e1 : x1 = nI bit) (e2 : x2 = nI c) (e3 : x3 = nI j) (e4 : x4 = nI lo) (e5 : x5 = nI hi) (hlo : lo ≤ 9999) (hhi : hi ≤ 9999) (hc : c ≤ 4)
    (hQ : ∀ k' d' sn', spVal tx n bit lo hi c j i d sn = .ok (k', d', sn') → ∀ I', MS tx n k' d' sn' hd g I' → mF I I' → Q I' J) (hE : ∀ c' o, spVal tx n bit lo hi c j i d sn = .error (c', o) → ∀ I', ME c' o I I' → Q I' J) : f_X8_readValue x1 x2 x3 x4 x5 I J Q := by
  have vc : vp_in x2 1802 := vin c 1802 (by omega) (by decide) e2
  unfold spVal at hQ hE
  refine m_once S.1 sn bit j S.2.1.1 hb S.2.1.2 e1 e3 (fun z I1 g1 s32 => ?_) (fun z I' er => bad_number er ⟨vc, fun I7 e7 => hE _ _ (if_pos z) I7 (ME_put er (Or.inr (Or.inr rfl)) e7)⟩)
  have zt : ¬ sn.testBit bit = true := by rw [z]; decide
  rw [if_neg zt] at hQ hE
  obtain ⟨s1, s2, s3, s4, s5, s6⟩ := S
  have f : ∀ k, k ≠ 15 → I1 12 0 k = I 12 0 k := fun k h => by rw [g1]; exact sI_ot _ _ _ _ h
  have S1 : MS tx n i d (sn + 2 ^ bit) hd g I1 := ⟨MA_keep s1 (f 3 (by decide)) (f 4 (by decide)) (f 5 (by decide)) (by rw [g1]; exact sI_ro _ _ _ _ _ (by decide)), ⟨s32, by rw [g1, sI_at]⟩, by rw [f 16 (by decide)]; exact s3, by rw [f 17 (by decide)]; exact s4, by rw [g1, sI_ro _ _ _ _ _ (by decide)]; exact s5, by rw [f 14 (by decide)]; exact s6⟩
  have F1 : mF I I1 := mF_put (Or.inl ⟨rfl, Or.inl (by decide)⟩) g1
  have z0 := skp_ok (tx := tx) (n := n) s1.2.1
  refine m_number S1.1 e4 e5 hlo hhi (fun k v ek I5 a5 f5 _ l1 l2 lt => ⟨vc, fun I7 e7 => ?_⟩) (fun c' o ek I' er => ⟨vc, fun I7 e7 => hE c' o (by rw [ek]; rfl) I7 (ME_put (F1.ME er) (Or.inr (Or.inr rfl)) e7)⟩)
  have S5 := MS_mo S1 f5 (show i ≤ k by omega) a5
  rw [cln (by omega) e2] at e7
  obtain ⟨t1, t2, t3, t4, t5, t6⟩ := S5
  have o : ∀ r, r ≠ 3 → I7 12 r = I5 12 r := fun r h => by rw [e7]; exact sI_ro _ _ _ _ _ h
  have o0 := o 0 (by decide)
  refine hQ k _ _ (by rw [ek]; rfl) I7 ⟨MA_keep t1 (by rw [o0]) (by rw [o0]) (by rw [o0]) (o 1 (by decide)), by rw [o0]; exact t2, by rw [o0]; exact t3, by rw [o0]; exact t4, ?_, by rw [o0]; exact t6⟩ ((F1.trans (mF_mo f5)).trans (mF_put (Or.inr rfl) e7))
  rw [e7]
  refine (rI_same _ _ _ _).trans ?_
  rw [t5]
theorem m_alike {Q : MI → MJ → Prop} (S : MS tx n i d sn hd g I) (D : DW d) 
    (hQ : ∀ k d', spAlike tx n i d g = .ok (k, d') → ∀ I', MS tx n k d' sn hd (g + 1) I' → mF I I' → Q I' J) (hE : ∀ c o, spAlike tx n i d g = .error (c, o) → ∀ I', ME c o I I' → Q I' J) : f_X8_readAlike I J Q := by
  have n6 := S.1.1
  have z0 := skp_ok (tx := tx) (n := n) S.1.2.1
  have g6 : g ≤ 600 := Nat.le_trans S.2.2.2.1.2 (Nat.le_trans S.1.2.1 n6)
  unfold spAlike spRun at hQ hE
  refine m_good S.1 (q_f (by decide) (m_ahead S.1 (fun I1 a1 f1 _ => m_isLetter _ (MA_le S.1 _) rfl ?_)))
  have S1 := MS_mo S f1 z0.1.1 a1
  by_cases y : isL (bt tx n (skp tx n i)) = true
  · rw [if_pos y] at hQ hE ⊢
    have r := rend_ok (tx := tx) (n := n) z0.1.2
    have gt : skp tx n i < rend tx n (skp tx n i) := by
      rcases Nat.lt_or_ge (skp tx n i) (rend tx n (skp tx n i)) with q | q
      · exact q
      · have e := r.2.1
        rw [show rend tx n (skp tx n i) = skp tx n i from Nat.le_antisymm q r.1.1, y] at e
        cases e
    refine q_f (by decide) (fun I14 e14 => ⟨_, up_mem2 (fun m (s : MI) => f_X8_readAlike_L38 (fun I_42 J_43 => Q I_42 J_43) m s J) (fun q s => ∃ dq : SD, spAlL tx (g + 1) (rend tx n (skp tx n i) - q) q dq = spAlL tx (g + 1) (rend tx n (skp tx n i) - skp tx n i) (skp tx n i) d ∧ DW dq ∧ MA tx n q s ∧ (sn < 32 ∧ s 12 0 15 = nI sn) ∧ s 12 0 16 = (if hd then 1 else 0) ∧ s 12 0 17 = nI (g + 1) ∧ s 12 3 = dq ∧ s 12 0 14 = 0 ∧ mF I s) (skp tx n i) (rend tx n (skp tx n i)) r.1.1 (fun m s hs => ?_) (fun m s q h1 h2 hs ih => ?_) I14 ?_⟩)
    · show f_X8_readAlike_B38 _ _ s J
      obtain ⟨dq, es, Dq, t1, t2, t3, t4, t5, t6, mf⟩ := hs
      rw [Nat.sub_self] at es
      refine m_good t1 (q_f (by decide) (m_byte t1 _ (by omega) t1.2.2.2.1 (m_isLetter _ (MA_le t1 _) rfl ?_)))
      rw [r.2.1]
      have gi := S.2.2.2.1.2
      refine q_t rfl (hQ _ dq (by show exB (spAlL tx (g + 1) (rend tx n (skp tx n i) - skp tx n i) (skp tx n i) d) _ = _; rw [← es]; rfl) s ⟨t1, t2, t3, ⟨t4, by omega⟩, t5, t6⟩ mf)
    · show f_X8_readAlike_B38 _ _ s J
      obtain ⟨dq, es, Dq, t1, t2, t3, t4, t5, t6, mf⟩ := hs
      have lt : q < n := by omega
      have lb := r.2.2 q h1 h2
      have lq := isL_t lb
      rw [bt_in lt] at lq
      have eb : eB (bt tx n q) = nI (tx q) := by rw [bt_in lt]; exact if_neg (by omega)
      refine m_good t1 (q_f (by decide) (m_byte t1 q (by omega) t1.2.2.2.1 (m_isLetter _ (MA_le t1 _) rfl ?_)))
      rw [lb]
      refine q_f (by decide) (m_byte t1 q (by omega) t1.2.2.2.1 (fun x1 ex1 => ?_))
      have q1 : x1 = nI (10 + (tx q - 97)) := by rw [ex1, eb, nlit 10, nlit 97, nI_add, nsub (by omega)]; congr 1; omega
      have v1 : vp_in x1 1802 := vin _ _ (by omega) (by decide) q1
      have es2 : spAlL tx (g + 1) (rend tx n (skp tx n i) - q) q dq = if dn dq (10 + (tx q - 97)) = 0 then spAlL tx (g + 1) (rend tx n (skp tx n i) - (q + 1)) (q + 1) (upd dq (10 + (tx q - 97)) (nI (g + 1))) else .error (-4, q) := by
        rw [show rend tx n (skp tx n i) - q = (rend tx n (skp tx n i) - (q + 1)) + 1 by omega]
        rfl
      have gd0 := Dq.1 (10 + (tx q - 97)) (okc_lo (by omega))
      rw [cln (by omega) q1, t5]
      refine ⟨v1, q_eq (dn dq (10 + (tx q - 97))) 0 (by omega) (by decide) gd0.1 rfl (fun z => ⟨v1, fun I38 e38 I39 e39 => ih I39 ?_⟩) (fun z => ?_)⟩
      · rw [if_pos z] at es2
        rw [cln (by omega) q1, t4] at e38
        have o0 : ∀ k, I38 12 0 k = s 12 0 k := fun k => by rw [e38, sI_ro _ _ _ _ _ (by decide)]
        have a38 : MA tx n q I38 := MA_keep t1 (o0 3) (o0 4) (o0 5) (by rw [e38]; exact sI_ro _ _ _ _ _ (by decide))
        have f9 : ∀ k, k ≠ 4 → I39 12 0 k = s 12 0 k := fun k h => by rw [e39, sI_ot _ _ _ _ h]; exact o0 k
        refine ⟨upd dq (10 + (tx q - 97)) (nI (g + 1)), by rw [← es2]; exact es, DW_low Dq (by omega) (by omega), MA_put a38 (by omega) e39 (by rw [a38.2.2.2.1, nI_1]), by rw [f9 15 (by decide)]; exact t2, by rw [f9 16 (by decide)]; exact t3, by rw [f9 17 (by decide)]; exact t4, ?_, by rw [f9 14 (by decide)]; exact t6, (mf.trans (mF_put (Or.inr rfl) e38)).trans (mF_put (Or.inl ⟨rfl, Or.inr (Or.inr rfl)⟩) e39)⟩
        rw [e39, sI_ro _ _ _ _ _ (by decide), e38]
        refine (rI_same _ _ _ _).trans ?_
        rw [t5]
      · rw [if_neg z] at es2
        refine m_report t1 q t1.2.2.2.1 (by decide) (fun I' er _ _ => ⟨v1, fun I38 e38 I39 e39 => ?_⟩)
        have er2 := ME_put (ME_put (mf.ME er) (Or.inr (Or.inr rfl)) e38) (Or.inr (Or.inl ⟨rfl, Or.inr rfl⟩)) e39
        have fin : Q I39 J := hE (-4) q (by show exB (spAlL tx (g + 1) (rend tx n (skp tx n i) - skp tx n i) (skp tx n i) d) _ = _; rw [← es, es2]; rfl) I39 er2
        show f_X8_readAlike_B38 _ _ I39 J
        exact bad_good er2 (q_t rfl fin)
    · have f14 : ∀ k, k ≠ 17 → I14 12 0 k = I1 12 0 k := fun k h => by rw [e14]; exact sI_ot _ _ _ _ h
      obtain ⟨t1, t2, t3, t4, t5, t6⟩ := S1
      refine ⟨d, rfl, D, MA_keep t1 (f14 3 (by decide)) (f14 4 (by decide)) (f14 5 (by decide)) (by rw [e14]; exact sI_ro _ _ _ _ _ (by decide)), by rw [f14 15 (by decide)]; exact t2, by rw [f14 16 (by decide)]; exact t3, by rw [e14, sI_at, t4.1, nI_1], by rw [e14, sI_ro _ _ _ _ _ (by decide)]; exact t5, by rw [f14 14 (by decide)]; exact t6, (mF_mo f1).trans (mF_put (Or.inl ⟨rfl, Or.inl (by decide)⟩) e14)⟩
  · rw [if_neg y] at hE ⊢
    refine q_t rfl (m_report a1 (skp tx n i) a1.2.2.2.1 (by decide) (fun I' er _ _ I14 e14 => ⟨1, ?_⟩))
    have er2 := ME_put ((mF_mo f1).ME er) (Or.inl ⟨rfl, by decide⟩) e14
    show f_X8_readAlike_B38 _ _ I14 J
    exact bad_good er2 (q_t rfl (hE _ _ rfl I14 er2))
end MAL
