/-! A RANK'S EXPRESSION: the class -/
theorem GM_eqc {I I' : MI} {d d' : SD} (G : GM I d) (e : eqc d d') (h : I' 11 4 10 = I 11 4 10) : GM I' d' := by
  obtain ⟨gm, g1, g2, g3⟩ := G
  refine ⟨gm, g1, h.trans g2, fun x hx => ?_⟩
  have : dn d' (10 + x) = dn d (10 + x) := by unfold dn; rw [e (10 + x) (by omega) (by omega)]
  rw [this]
  exact g3 x hx
theorem RR_eqc {I I' : MI} {J : MJ} {d d' : SD} {g : Nat} (D : DW d) (R : RR I J d g) (e : eqc d d') (o : ∀ r, r ≠ 2 → r ≠ 5 → I' 10 r = I 10 r) : RR I' J d' g := by
  obtain ⟨A, ⟨F, G⟩, Rw, P⟩ := R
  have n : ∀ q, q < 602 → q ≠ 9 → dn d' q = dn d q := fun q a b => by unfold dn; rw [e q a b]
  refine ⟨?_, ⟨F, fun x hx => ?_⟩, fun r hr => ?_, fun p hp => ?_⟩
  · rw [o 1 (by decide) (by decide), o 0 (by decide) (by decide), e 0 (by decide) (by decide), e 1 (by decide) (by decide), e 2 (by decide) (by decide), e 3 (by decide) (by decide), e 4 (by decide) (by decide)]
    exact A
  · have z := G x hx
    rw [o 4 (by decide) (by decide), n (10 + x) (by omega) (by omega)]
    refine ⟨z.1, z.2.1, fun y => ?_⟩
    have z3 := z.2.2 y
    rw [n (10 + F (dn d (10 + x))) (by omega) (by omega)]
    exact z3
  · rw [o 8 (by decide) (by decide), o 9 (by decide) (by decide), o 11 (by decide) (by decide), o 3 (by decide) (by decide), e _ (show 36 + 45 * r < 602 by omega) (show 36 + 45 * r ≠ 9 by omega), n 0 (by decide) (by decide)]
    exact Rw r hr
  · obtain ⟨p1, p2, p3⟩ := P p hp
    have em : mMany d' p = mMany d p := n _ (show 306 + 74 * p + 1 < 602 by omega) (show 306 + 74 * p + 1 ≠ 9 by omega)
    rw [o 13 (by decide) (by decide), o 14 (by decide) (by decide), e _ (show 306 + 74 * p + 1 < 602 by omega) (show 306 + 74 * p + 1 ≠ 9 by omega), em]
    refine ⟨p1, p2, fun k hk => ?_⟩
    have dp := (D.2.2.2 p hp)
    have k3 := (dp.2.2 k hk).1
    have cell : ∀ j, j < 9 → dn d' (wA p k + j) = dn d (wA p k + j) := fun j hj => n _ (show 306 + 74 * p + 2 + 9 * k + j < 602 by omega) (show 306 + 74 * p + 2 + 9 * k + j ≠ 9 by omega)
    have el : mLen d' p k = mLen d p k := cell 0 (by decide)
    rw [el, p3 k hk, pk_ch (d := d) (d' := d') _ (fun j hj => by rw [Nat.add_assoc, cell (1 + j) (by omega)])]
def opC (t : Nat) : Int32 := if t = 0 then 0 else -nI (t + 5)
theorem opC_tk {t : Nat} (h : 2 ≤ t) : opC t = tkC (t, 0) := by
  obtain ⟨o, rfl⟩ : ∃ o, t = o + 2 := ⟨t - 2, by omega⟩
  show (if o + 2 = 0 then (0 : Int32) else -nI (o + 2 + 5)) = -nI (o + 7)
  rw [if_neg (by omega)]
theorem opC_ne : ∀ t, t < 6 → 2 ≤ t → ¬ opC t = 0 := by decide +kernel
section KSM
variable {tx : Nat → Nat} {n sn g : Nat} {hd : Bool}
theorem k_push {I : MI} {J : MJ} {i : Nat} {d : SD} {L : List TK} {x : Int32} {tok : TK} {Q : MI → MJ → Prop} (S : KS tx n i d L sn hd g I J) (D : DW d) (hL : L.length < 600) (e : x = tkC tok) (c : eqc d (emT d tok))
    (h : ∀ I', KS tx n i (emT d tok) (L ++ [tok]) sn hd g I' J → kF I I' J J → Q I' J) : f_X3_add 10 x I J Q := by
  obtain ⟨s1, s2, s3, s4, s5, s6⟩ := S
  have v : vp_in (I 10 2 2) 600 := vin _ 600 hL (by decide) s6.1
  refine q_le 600 L.length (by decide) (by omega) rfl s6.1 (fun y => absurd y (by omega)) (fun _ => ⟨v, fun I3 e3 I4 e4 => ?_⟩)
  rw [cln (by omega) s6.1] at e3
  have o11 : ∀ r, I4 11 r = I 11 r := fun r => by rw [e4, e3]; unfold sI; rw [rI_ne (by omega), rI_ne (by omega)]
  have o : ∀ r, r ≠ 2 → r ≠ 5 → I4 10 r = I 10 r := fun r h2 h5 => by rw [e4, sI_ro _ _ _ _ _ h2, e3, sI_ro _ _ _ _ _ h5]
  have o5 : I4 10 5 = upd (I 10 5) L.length x := by rw [e4, sI_ro _ _ _ _ _ (by decide), e3]; exact rI_same _ _ _ _
  refine h I4 ⟨KA_keep s1 (by rw [o11]) (by rw [o11]) (o11 5), by rw [o11]; exact s2, by rw [o11]; exact s3, GM_eqc s4 c (by rw [o11]), RR_eqc D s5 c o, ?_, fun q hq => ?_⟩ ⟨fun b r nb _ => by rw [e4, e3]; unfold sI; rw [rI_ne (fun y => nb y.1), rI_ne (fun y => nb y.1)], fun _ _ => rfl, fun q _ => by rw [o11]⟩
  · rw [e4, sI_at, e3, sI_ro _ _ _ _ _ (by decide), s6.1, nlit 1, nI_add, List.length_append]
    rfl
  · rw [List.length_append] at hq
    have hq2 : q < L.length + 1 := hq
    rw [o5]
    by_cases z : q = L.length
    · rw [z, upd_at, e, List.getD_eq_getElem?_getD, List.getElem?_append_right (Nat.le_refl _), Nat.sub_self]
      rfl
    · rw [upd_ot _ _ z, s6.2 q (by omega), List.getD_eq_getElem?_getD, List.getD_eq_getElem?_getD, List.getElem?_append_left (by omega)]
theorem k_factOf {I : MI} {J : MJ} {k j : Nat} {Q : Int32 → MI → MJ → Prop} (a : KA tx n k I) (e7 : I 11 4 7 = nI j) (hj : j ≤ k) (h : Q (match factOf tx n j k with | some f => -nI (f + 1) | none => 0) I J) : f_X5_factOfRun I J Q := by
  have st : ∀ (w : Nat), w < 13 → ∀ {Q' : Int32 → MI → MJ → Prop}, Q' (if runIs tx n w j k then 1 else 0) I J → f_X5_runIs w I J Q' := fun w hw _ h' => k_runIs hw a e7 hj h'
  unfold factOf at h
  refine st 8 (by decide) ?_
  by_cases y : runIs tx n 8 j k = true
  · rw [if_pos y] at h ⊢; exact q_f (by decide) h
  · rw [if_neg y] at h ⊢
    refine q_t rfl (st 9 (by decide) ?_)
    by_cases y : runIs tx n 9 j k = true
    · rw [if_pos y] at h ⊢; exact q_f (by decide) h
    · rw [if_neg y] at h ⊢
      refine q_t rfl (st 10 (by decide) ?_)
      by_cases y : runIs tx n 10 j k = true
      · rw [if_pos y] at h ⊢; exact q_f (by decide) h
      · rw [if_neg y] at h ⊢
        refine q_t rfl (st 11 (by decide) ?_)
        by_cases y : runIs tx n 11 j k = true
        · rw [if_pos y] at h ⊢; exact q_f (by decide) h
        · rw [if_neg y] at h ⊢
          refine q_t rfl (st 12 (by decide) ?_)
          by_cases y : runIs tx n 12 j k = true
          · rw [if_pos y] at h ⊢; exact q_f (by decide) h
          · rw [if_neg y] at h ⊢
            refine q_t rfl (st 6 (by decide) ?_)
            by_cases y : runIs tx n 6 j k = true
            · rw [if_pos y] at h ⊢; exact q_f (by decide) h
            · rw [if_neg y] at h ⊢; exact q_t rfl h
/-- what a sum's reader owes at a level -/
def kSumP (tx : Nat → Nat) (n sn g : Nat) (hd : Bool) (D : Nat) (sp : Nat → SD → List TK → Except ERR SS) (rs : Int32 → MI → MJ → (Int32 → MI → MJ → Prop) → Prop) : Prop :=
  ∀ (x : Int32) (i k : Nat) (d : SD) (L : List TK) (I : MI) (J : MJ) (Q : Int32 → MI → MJ → Prop), x = nI (4 - D) → k ≤ 2 * (4 - D) → KS tx n i d L sn hd g I J → TI n 0 i d L k →
    (∀ s, sp i d L = .ok s → ∀ I', KS tx n s.1 s.2.1 s.2.2 sn hd g I' J → kF I I' J J → Q 1 I' J) → (∀ c o, sp i d L = .error (c, o) → ∀ I', kE c o I I' J J → Q 0 I' J) → rs x I J Q
theorem neg_ne : ∀ f, f < 6 → ¬ -nI (f + 1) = (0 : Int32) := by decide +kernel
theorem k_fac {D : Nat} {rs : Int32 → MI → MJ → (Int32 → MI → MJ → Prop) → Prop} {sp : Nat → SD → List TK → Except ERR SS} (hD : D ≤ 4) (hrs : 1 ≤ D → kSumP tx n sn g hd (D - 1) sp rs) (hsp : 1 ≤ D → ∀ i d L k, k ≤ 2 * (5 - D) → TI n 0 i d L k → ∀ s, sp i d L = .ok s → TO n 0 i d L k s)
    {I : MI} {J : MJ} {u i k : Nat} {d : SD} {L : List TK} {x : Int32} {Q : Int32 → MI → MJ → Prop} (ex : x = nI (4 - D)) (hk : k ≤ 2 * (4 - D) + 2) (S : KS tx n i d L sn hd g I J) (T : TI n u i d L k)
    (hQ : ∀ s, spFac tx n D sp i d L = .ok s → ∀ I', KS tx n s.1 s.2.1 s.2.2 sn hd g I' J → kF I I' J J → Q 1 I' J) (hE : ∀ c o, spFac tx n D sp i d L = .error (c, o) → ∀ I', kE c o I I' J J → Q 0 I' J) : f_X5_readFactor rs x I J Q := by
  have n6 := S.1.1
  have z := skp_ok (tx := tx) (n := n) S.1.2.1
  have tl := T.2.1
  refine k_peek S.1 (fun I1 a1 f1 _ _ => ?_)
  have S1 := KS_fo S f1 a1
  have iff := eB_eq (s := 40) (bt_le S.1 (skp tx n i)) (by decide)
  unfold spFac at hQ hE
  refine ⟨fun y => ?_, fun y => ?_⟩
  · have c := iff.mp y
    have lt := bt_lt (by decide) c
    rw [if_pos c] at hQ hE
    refine q_lt (4 - D) 4 (by omega) (by decide) ex rfl (fun w I30 e30 => ?_) (fun w => k_fail (skp tx n i) a1.2.2.2.1 (fun I' er => ⟨bo0, hE _ _ (if_pos (by omega)) I' ((kF_fo f1).kE (kE_er er))⟩))
    rw [if_neg (show ¬ D = 0 by omega)] at hQ hE
    have a30 : KA tx n (skp tx n i + 1) I30 := KA_put a1 (by omega) e30 (by rw [a1.2.2.2.1, nI_1])
    have f30 : fo I1 I30 := fo_put (Or.inl rfl) e30
    have S30 := KS_fo S1 f30 a30
    have F30 : kF I I30 J J := (kF_fo f1).trans (kF_fo f30)
    have T30 : TI n 0 (skp tx n i + 1) d L k := TI_len T 0 (by omega) (by omega)
    refine hrs (by omega) _ (skp tx n i + 1) k d L I30 J _ (by rw [ex, nlit 1, nI_add]; congr 1; omega) (by omega) S30 T30 (fun s es I' S' F' => q_f (by decide) ?_) (fun c o es I' E' => q_t rfl (hE c o (by rw [es]; rfl) I' (F30.kE E')))
    rw [es, exB_ok] at hQ hE
    refine k_sign S'.1 rfl (by decide) (fun j ej I2 a2 f2 => q_f (by decide) (hQ (j, s.2.1, s.2.2) (by rw [ej]; rfl) I2 (KS_fo S' f2 a2) ((F30.trans F').trans (kF_fo f2)))) (fun c o ej I2 er => q_t rfl (hE c o (by rw [ej]; rfl) I2 ((F30.trans F').kE (kE_er er))))
  · have c : ¬ bt tx n (skp tx n i) = 40 := fun w => y (iff.mpr w)
    rw [if_neg c] at hQ hE
    refine k_digit _ (bt_le S.1 _) rfl ?_
    have sk : skp tx n (skp tx n i) = skp tx n i := skp_skp S.1.2.1
    by_cases w : isD (bt tx n (skp tx n i)) = true
    · rw [if_pos w] at hQ hE ⊢
      have en : spNum tx n 0 9999 (skp tx n i) = spNum tx n 0 9999 i := by unfold spNum; rw [sk]
      refine q_f (by decide) (k_number (lo := 0) (hi := 9999) a1 rfl rfl (by decide) (by decide) (fun k' v ek I2 a2 f2 e6 _ _ l2 gt => q_f (by decide) ?_) (fun c o ek I' er => q_t rfl (hE c o (by rw [← en, ek]; rfl) I' ((kF_fo f1).kE (kE_er er)))))
      rw [en] at ek
      rw [ek, exB_ok] at hQ
      have S2 := KS_fo S1 f2 a2
      have c2 : eqc d (emT d (0, v)) := (em_eqc 0).trans (em_eqc v)
      exact k_push (tok := (0, v)) S2 T.2.2.2.2.1 (by omega) e6 c2 (fun I' S' F' => hQ _ rfl I' S' (((kF_fo f1).trans (kF_fo f2)).trans F'))
    · rw [if_neg w] at hQ hE ⊢
      have en : spRun tx n (skp tx n i) = spRun tx n i := by unfold spRun; rw [sk]
      refine q_t rfl (k_run a1 (fun k' ek I2 a2 f2 e7 gt => q_f (by decide) ?_) (fun c o ek I' er => q_t rfl (hE c o (by rw [← en, ek]; rfl) I' ((kF_fo f1).kE (kE_er er)))))
      rw [en] at ek
      rw [sk] at e7 gt
      rw [ek, exB_ok] at hQ hE
      have S2 := KS_fo S1 f2 a2
      refine k_factOf a2 e7 (Nat.le_of_lt gt) ?_
      unfold spFact at hQ hE
      cases hf : factOf tx n (skp tx n i) k' with
      | none =>
        rw [hf] at hE
        exact q_t rfl (k_fail (skp tx n i) e7 (fun I' er => ⟨bo0, hE _ _ rfl I' (((kF_fo f1).trans (kF_fo f2)).kE (kE_er er))⟩))
      | some f =>
        rw [hf] at hQ
        have f5 := fact_lt hf
        have c2 : eqc d (emT d (1, f)) := (em_eqc 1).trans (em_eqc f)
        exact q_f (neg_ne f (by omega)) (k_push (tok := (1, f)) S2 T.2.2.2.2.1 (by omega) rfl c2 (fun I' S' F' => hQ _ rfl I' S' (((kF_fo f1).trans (kF_fo f2)).trans F')))
theorem k_pend {I : MI} {J : MJ} {i t w m : Nat} {d : SD} {L : List TK} {Q : MI → MJ → Prop} (ht : okO t) (S : KS tx n i d L sn hd g I J) (T : TI n (pe t + w) i d L (m + pe t)) (hm : 1 ≤ m)
    (h : ∀ I', KS tx n i (pD t d) (pL t L) sn hd g I' J → kF I I' J J → Q I' J) : ((opC t = (0 : Int32) → Q I J) ∧ (¬ opC t = (0 : Int32) → f_X3_add 10 (opC t) I J Q)) := by
  have tp := TI_p ht T hm
  have n6 := T.2.2.2.1
  have tl := T.2.1
  have ti := T.2.2.1
  unfold pD pL at h tp
  by_cases z : t = 0
  · rw [if_pos z, if_pos z] at h
    exact q_t (if_pos z) (h I S kF.rfl)
  · rw [if_neg z, if_neg z] at h
    rw [if_neg z] at tp
    have t25 := ht.resolve_left z
    have p1 : pe t = 1 := if_neg z
    exact q_f (opC_ne t (by omega) t25.1) (k_push (tok := (t, 0)) S T.2.2.2.2.1 (by omega) (opC_tk t25.1) tp.2.1 h)
theorem k_takeOp {I : MI} {J : MJ} {i : Nat} {Q : Int32 → MI → MJ → Prop} (a : KA tx n i I) (h : ∀ (o : Nat) I', (bt tx n (skp tx n i) = 42 ∧ o = 4) ∨ (bt tx n (skp tx n i) = 43 ∧ o = 2) ∨ (bt tx n (skp tx n i) = 45 ∧ o = 3) ∨ (bt tx n (skp tx n i) = 47 ∧ o = 5) → KA tx n (skp tx n i + 1) I' → fo I I' → Q (opC o) I' J)
    (h0 : ∀ I', ¬ bt tx n (skp tx n i) = 42 → ¬ bt tx n (skp tx n i) = 43 → ¬ bt tx n (skp tx n i) = 45 → ¬ bt tx n (skp tx n i) = 47 → KA tx n (skp tx n i) I' → fo I I' → Q 0 I' J) : f_X5_takeOperator I J Q := by
  refine k_peek a (fun I1 a1 f1 _ _ => ?_)
  have iff : ∀ s, s < 256 → (eB (bt tx n (skp tx n i)) = nI s ↔ bt tx n (skp tx n i) = s) := fun s hs => eB_eq (bt_le a (skp tx n i)) hs
  have go : ∀ (o : Nat) (x : Int32), x = opC o → (bt tx n (skp tx n i) = 42 ∧ o = 4) ∨ (bt tx n (skp tx n i) = 43 ∧ o = 2) ∨ (bt tx n (skp tx n i) = 45 ∧ o = 3) ∨ (bt tx n (skp tx n i) = 47 ∧ o = 5) → f_X5_takeOperator_J70 Q x I1 J := by
    intro o x ex c I8 e8
    have lt : skp tx n i < n := bt_lt (c := bt tx n (skp tx n i)) (by omega) rfl
    rw [ex]
    exact h o I8 c (KA_put a1 (by omega) e8 (by rw [a1.2.2.2.1, nI_1])) (f1.trans (fo_put (Or.inl rfl) e8))
  refine ⟨fun y => go 4 _ rfl (Or.inl ⟨(iff 42 (by decide)).mp y, rfl⟩), fun y1 => ⟨fun y => go 2 _ rfl (Or.inr (Or.inl ⟨(iff 43 (by decide)).mp y, rfl⟩)), fun y2 => ⟨fun y => go 3 _ rfl (Or.inr (Or.inr (Or.inl ⟨(iff 45 (by decide)).mp y, rfl⟩))), fun y3 => ⟨fun y => go 5 _ rfl (Or.inr (Or.inr (Or.inr ⟨(iff 47 (by decide)).mp y, rfl⟩))), fun y4 => h0 I1 (fun w => y1 ((iff 42 (by decide)).mpr w)) (fun w => y2 ((iff 43 (by decide)).mpr w)) (fun w => y3 ((iff 45 (by decide)).mpr w)) (fun w => y4 ((iff 47 (by decide)).mpr w)) a1 f1⟩⟩⟩⟩
theorem opC_mul : opC 4 = -9 ∧ opC 5 = -10 ∧ opC 2 = -7 ∧ opC 3 = -8 := by decide +kernel
theorem k_A {D : Nat} {rs : Int32 → MI → MJ → (Int32 → MI → MJ → Prop) → Prop} {sp : Nat → SD → List TK → Except ERR SS} (hD : D ≤ 4) (hrs : 1 ≤ D → kSumP tx n sn g hd (D - 1) sp rs) (hsp : 1 ≤ D → ∀ i d L k, k ≤ 2 * (5 - D) → TI n 0 i d L k → ∀ s, sp i d L = .ok s → TO n 0 i d L k s)
    {x : Int32} {Q : Int32 → MI → MJ → Prop} (ex : x = nI (4 - D)) : ∀ (f t s i c m k0 : Nat) (d : SD) (L : List TK) (I : MI) (J : MJ), n - i < f → f ≤ m → c < i → okO t → okO s → k0 ≤ 2 * (4 - D) → KS tx n i d L sn hd g I J → TI n (pe t + pe s) i d L (k0 + pe t + pe s) →
      (∀ r, spA tx n D sp f t s i d L = .ok r → ∀ I', KS tx n r.1 r.2.1 r.2.2 sn hd g I' J → kF I I' J J → Q 1 I' J) → (∀ c o, spA tx n D sp f t s i d L = .error (c, o) → ∀ I', kE c o I I' J J → Q 0 I' J) →
      f_X5_readSum_L19 rs x (fun (I_58 : MI) (J_59 : MJ) => Q (1 : Int32) I_58 J_59) (fun (I_60 : MI) (J_61 : MJ) => Q (0 : Int32) I_60 J_61) (fun (I_62 : MI) (J_63 : MJ) => Q (1 : Int32) I_62 J_63) m (opC t) (opC s) (nI c) I J := by
  intro f
  induction f with
  | zero => intro t s i c m k0 d L I J h; omega
  | succ f ih =>
    intro t s i c m k0 d L I J hf hfm hc ht hs hk S T hQ hE
    obtain ⟨m', rfl⟩ : ∃ m', m = m' + 1 := ⟨m - 1, by omega⟩
    have n6 := S.1.1
    have ni := S.1.2.1
    have pt : pe t ≤ 1 := by unfold pe; split <;> omega
    have ps : pe s ≤ 1 := by unfold pe; split <;> omega
    show f_X5_readSum_B19 rs x _ _ _ _ (opC t) (opC s) (nI c) I J
    refine q_f (nge (n := 600) (by omega) (by decide)) (k_fac hD hrs hsp (u := pe t + pe s) (k := k0 + pe t + pe s) ex (by omega) S T (fun q eq I1 S1 F1 => q_f (by decide) ?_) (fun c' o eq I' E' => q_t rfl (hE c' o (by show exB (spFac tx n D sp i d L) _ = _; rw [eq]; rfl) I' E')))
    have es : spA tx n D sp (f + 1) t s i d L = if bt tx n (skp tx n q.1) = 42 then spA tx n D sp f 4 s (skp tx n q.1 + 1) (pD t q.2.1) (pL t q.2.2)
      else if bt tx n (skp tx n q.1) = 47 then spA tx n D sp f 5 s (skp tx n q.1 + 1) (pD t q.2.1) (pL t q.2.2)
      else if bt tx n (skp tx n q.1) = 43 then spA tx n D sp f 0 2 (skp tx n q.1 + 1) (pD s (pD t q.2.1)) (pL s (pL t q.2.2))
      else if bt tx n (skp tx n q.1) = 45 then spA tx n D sp f 0 3 (skp tx n q.1 + 1) (pD s (pD t q.2.1)) (pL s (pL t q.2.2))
      else .ok (skp tx n q.1, pD s (pD t q.2.1), pL s (pL t q.2.2)) := by
      show exB (spFac tx n D sp i d L) _ = _
      rw [eq]
      rfl
    rw [es] at hQ hE
    have O := spFac_ok hD hsp (by omega) T eq
    obtain ⟨a1, a2, a3, a4, a5, a6⟩ := aft_ok (u0 := 0) ht hs O
    have o2 := O.2.1
    refine k_pend (w := pe s) (m := k0 + 1 + pe s) ht S1 (by rw [show k0 + 1 + pe s + pe t = k0 + pe t + pe s + 1 by omega]; exact O.1) (by omega) (fun I2 S2 F2 => ?_)
    have z := skp_ok (tx := tx) (n := n) S2.1.2.1
    have p := opC_mul
    refine k_takeOp S2.1 (fun o I3 co a3' f3 => ?_) (fun I3 b1 b2 b3 b4 a3' f3 => ?_)
    · have S3 := KS_fo S2 f3 a3'
      have F3 : kF I I3 J J := (F1.trans F2).trans (kF_fo f3)
      have lt := a3'.2.1
      have mul : ∀ o, okO o → pe o = 1 → ¬ opC o = 0 → (∀ r, spA tx n D sp f o s (skp tx n q.1 + 1) (pD t q.2.1) (pL t q.2.2) = .ok r → ∀ I', KS tx n r.1 r.2.1 r.2.2 sn hd g I' J → kF I I' J J → Q 1 I' J) → (∀ c o', spA tx n D sp f o s (skp tx n q.1 + 1) (pD t q.2.1) (pL t q.2.2) = .error (c, o') → ∀ I', kE c o' I I' J J → Q 0 I' J) →
          f_X5_readSum_J71 rs (fun (I_58 : MI) (J_59 : MJ) => Q (1 : Int32) I_58 J_59) (fun (I_60 : MI) (J_61 : MJ) => Q (0 : Int32) I_60 J_61) (fun (I_62 : MI) (J_63 : MJ) => Q (1 : Int32) I_62 J_63) (f_X5_readSum_L19 rs x (fun (I_58 : MI) (J_59 : MJ) => Q (1 : Int32) I_58 J_59) (fun (I_60 : MI) (J_61 : MJ) => Q (0 : Int32) I_60 J_61) (fun (I_62 : MI) (J_63 : MJ) => Q (1 : Int32) I_62 J_63) m') x (opC s) (nI c) (opC o) 1 I3 J := by
        intro o ho po no gQ gE
        refine q_f (by decide) (q_f (by decide) (q_f no (q_f (by decide) (fun x5 e5 => ?_))))
        rw [e5, nI_1]
        exact ih o s (skp tx n q.1 + 1) (c + 1) m' k0 _ _ I3 J (by omega) (by omega) (by omega) ho hs hk S3 (by rw [po]; exact TI_to a1 (by omega) (by omega)) (fun r er I' S' F' => gQ r er I' S' (F3.trans F')) (fun c o' er I' E' => gE c o' er I' (F3.kE E'))
      have add : ∀ o, okO o → pe o = 1 → ¬ opC o = 0 → (∀ r, spA tx n D sp f 0 o (skp tx n q.1 + 1) (pD s (pD t q.2.1)) (pL s (pL t q.2.2)) = .ok r → ∀ I', KS tx n r.1 r.2.1 r.2.2 sn hd g I' J → kF I I' J J → Q 1 I' J) → (∀ c o', spA tx n D sp f 0 o (skp tx n q.1 + 1) (pD s (pD t q.2.1)) (pL s (pL t q.2.2)) = .error (c, o') → ∀ I', kE c o' I I' J J → Q 0 I' J) →
          f_X5_readSum_J71 rs (fun (I_58 : MI) (J_59 : MJ) => Q (1 : Int32) I_58 J_59) (fun (I_60 : MI) (J_61 : MJ) => Q (0 : Int32) I_60 J_61) (fun (I_62 : MI) (J_63 : MJ) => Q (1 : Int32) I_62 J_63) (f_X5_readSum_L19 rs x (fun (I_58 : MI) (J_59 : MJ) => Q (1 : Int32) I_58 J_59) (fun (I_60 : MI) (J_61 : MJ) => Q (0 : Int32) I_60 J_61) (fun (I_62 : MI) (J_63 : MJ) => Q (1 : Int32) I_62 J_63) m') x (opC s) (nI c) (opC o) 0 I3 J := by
        intro o ho po no gQ gE
        refine q_t rfl (q_t rfl (k_pend (w := 0) (m := k0 + 1) hs S3 (TI_to a1 (by omega) (by omega)) (by omega) (fun I4 S4 F4 => q_f no (q_t rfl (fun x5 e5 => ?_)))))
        rw [e5, nI_1]
        exact ih 0 o (skp tx n q.1 + 1) (c + 1) m' k0 _ _ I4 J (by omega) (by omega) (by omega) (Or.inl rfl) ho hk S4 (by rw [po]; exact TI_to a2 (by show 0 + 1 + q.1 ≤ 0 + (skp tx n q.1 + 1); omega) (by omega)) (fun r er I' S' F' => gQ r er I' S' ((F3.trans F4).trans F')) (fun c o' er I' E' => gE c o' er I' ((F3.trans F4).kE E'))
      rcases co with ⟨c1, co⟩ | ⟨c1, co⟩ | ⟨c1, co⟩ | ⟨c1, co⟩
      · subst co
        rw [if_pos c1] at hQ hE
        exact q_t p.1 (mul 4 (Or.inr (by decide)) rfl (opC_ne 4 (by decide) (by decide)) hQ hE)
      · subst co
        rw [if_neg (by omega), if_neg (by omega), if_pos c1] at hQ hE
        exact q_f (by decide +kernel) (q_f (by decide +kernel) (add 2 (Or.inr (by decide)) rfl (opC_ne 2 (by decide) (by decide)) hQ hE))
      · subst co
        rw [if_neg (by omega), if_neg (by omega), if_neg (by omega), if_pos c1] at hQ hE
        exact q_f (by decide +kernel) (q_f (by decide +kernel) (add 3 (Or.inr (by decide)) rfl (opC_ne 3 (by decide) (by decide)) hQ hE))
      · subst co
        rw [if_neg (by omega), if_pos c1] at hQ hE
        exact q_f (by decide +kernel) (q_t p.2.1 (mul 5 (Or.inr (by decide)) rfl (opC_ne 5 (by decide) (by decide)) hQ hE))
    · have S3 := KS_fo S2 f3 a3'
      have F3 : kF I I3 J J := (F1.trans F2).trans (kF_fo f3)
      rw [if_neg b1, if_neg b4, if_neg b2, if_neg b3] at hQ
      exact q_f (by decide +kernel) (q_f (by decide +kernel) (q_t rfl (q_t rfl (k_pend (w := 0) (m := k0 + 1) hs S3 (TI_to a1 (by omega) (by omega)) (by omega) (fun I4 S4 F4 => q_t rfl (hQ _ rfl I4 S4 (F3.trans F4)))))))
theorem k_sum : ∀ (D F : Nat), D ≤ 4 → D + 1 ≤ F → kSumP tx n sn g hd D (spSum tx n D) (f_X5_readSum F)
  | 0, F, hD, hF => by
    intro x i k d L I J Q ex hk S T hQ hE
    obtain ⟨F', rfl⟩ : ∃ F', F = F' + 1 := ⟨F - 1, by omega⟩
    have n6 := T.2.2.2.1
    have tl := T.2.1
    exact ⟨601, k_A (rs := f_X5_readSum F') (sp := fun _ _ _ => .error (-6, 0)) hD (fun h => absurd h (by omega)) (fun h => absurd h (by omega)) ex 601 0 0 i 0 601 k d L I J (by omega) (Nat.le_refl _) (by omega) (Or.inl rfl) (Or.inl rfl) hk S T hQ hE⟩
  | D + 1, F, hD, hF => by
    intro x i k d L I J Q ex hk S T hQ hE
    obtain ⟨F', rfl⟩ : ∃ F', F = F' + 1 := ⟨F - 1, by omega⟩
    have n6 := T.2.2.2.1
    have tl := T.2.1
    exact ⟨601, k_A (rs := f_X5_readSum F') (sp := spSum tx n D) hD (fun _ => k_sum D F' (by omega) (by omega)) (fun _ i d L k hk T s e => spSum_ok D (by omega) i d L k (by omega) T s e) ex 601 0 0 i 0 601 k d L I J (by omega) (Nat.le_refl _) (by omega) (Or.inl rfl) (Or.inl rfl) hk S T hQ hE⟩
end KSM
