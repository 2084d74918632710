theorem sWords_eqd {d d' : Nat → Int32} (W : WF d) (h : eqd d d') : sWords d' = sWords d := by
  have b4 := wf_pls W
  unfold sWords
  rw [eqd_n h (by decide)]
  exact sumN_congr _ (fun p hp => eqd_n h (show 306 + 74 * p + 1 < 1802 by omega))
/-- the earlier games, seen in another memory -/
theorem HI_fr {I I' : MI} {J J' : MJ} {c nx : Nat} (H : HI I J c nx) (hb : ∀ b, 2 ≤ b → b < 10 → I' b = I b) (hJ : ∀ b, 2 ≤ b → b < 10 → J' b = J b) (h2 : I' 11 2 = I 11 2) (hr : ∀ k, k < 8 → I' 12 (6 + k) = I 12 (6 + k)) (hc : I' 12 0 12 = I 12 0 12) : HI I' J' c nx := by
  obtain ⟨h8, hn, a1, a2, a3, H⟩ := H
  refine ⟨h8, hn, by rw [hc]; exact a1, by rw [h2]; exact a2, by rw [h2]; exact a3, fun k hk => ?_⟩
  have z := H k hk
  have lt : (nx + 8 - c + k) % 8 < 8 := Nat.mod_lt _ (by decide)
  rw [hr k (by omega)]
  exact ⟨z.1, z.2.1, RC_blk z.2.2 (hb _ (by omega) (by omega)) (hJ _ (by omega) (by omega))⟩
theorem BU_0 {I : MI} (h1 : I 11 0 1 = 0) (h2 : I 12 0 2 = 0) : ∃ n, BU I n := ⟨0, Nat.zero_le _, h1, h2, fun i hi => absurd hi (Nat.not_lt_zero i)⟩
theorem INV_buf {I I' : MI} {J J' : MJ} (V : INV I J) (hb : ∀ b, b < 10 → I' b = I b) (hJ : ∀ b, b < 10 → J' b = J b) (h2 : I' 11 2 = I 11 2) (hd : I' 12 2 = I 12 2) (hr : ∀ k, k < 8 → I' 12 (6 + k) = I 12 (6 + k)) (hc : I' 12 0 12 = I 12 0 12) (b1 : I' 11 0 1 = 0) (b2 : I' 12 0 2 = 0) (he : I' 11 0 2 = I' 12 0 7) : INV I' J' := by
  obtain ⟨⟨W, L, C⟩, ⟨c, nx, H⟩, -, -⟩ := V
  refine ⟨⟨by rw [hd]; exact W, by rw [hd]; exact L, ?_⟩, ⟨c, nx, HI_fr H (fun b _ h => hb b h) (fun b _ h => hJ b h) h2 hr hc⟩, BU_0 b1 b2, he⟩
  rw [hd]
  exact RC_blk C (hb 0 (by decide)) (hJ 0 (by decide))
section MLD
variable {I : MI} {J : MJ} {tx : Nat → Nat} {n0 c : Nat}
/-- behind a setup text that was taken -/
def mL (c : Nat) (d'' : Nat → Int32) (I I' : MI) : Prop := (∀ b, b ≠ 12 → I' b = I b) ∧ kpH c I I' ∧ I' 12 2 = d'' ∧ I' 12 0 0 = 0 ∧ I' 12 0 2 = 0 ∧ I' 12 0 7 = -1
/-- and behind one that was not -/
def mLE (o : Nat) (I I' : MI) : Prop := (∀ b, b ≠ 12 → I' b = I b) ∧ I' 12 2 = I 12 2 ∧ (∀ k, k < 8 → I' 12 (6 + k) = I 12 (6 + k)) ∧ I' 12 0 12 = I 12 0 12 ∧ I' 12 0 0 = 0 ∧ I' 12 0 2 = 0 ∧ I' 12 0 7 = nI o
theorem mc_load {x : Int32} {X : SD} {Q : Int32 → MI → MJ → Prop} (hc : c ≤ 8) (ec : I 12 0 12 = nI c) (hX : I 12 3 = X) (h6 : n0 ≤ 600) (e2 : I 12 0 2 = nI n0) (hb : ∀ i, i < n0 → I 12 1 i = nI (tx i) ∧ tx i < 256)
    (h : ∀ n, n ≤ n0 → x = nI n → ∀ st, spLoad tx n (d0 X) = .ok st → WF st.2.1 ∧ ∀ d'' I', eqd st.2.1 d'' → mL c d'' I I' → Q (nI (sWords st.2.1)) I' J)
    (hE : ∀ n, n ≤ n0 → x = nI n → ∀ c' o, spLoad tx n (d0 X) = .error (c', o) → ∀ I', mLE o I I' → Q c' I' J)
    (g : (∀ n, n ≤ n0 → x ≠ nI n) → ∀ I', mT 1 I I' J J → Q 0 I' J) : f_X8_load x I J Q := by
  intro I1 e1
  have t := mT_0 (J := J) e1
  have f0 : ∀ k, k ≠ 0 → I1 12 0 k = I 12 0 k := fun k hk => t.1.2.2.2.2.1 k hk
  have o : ∀ b, b ≠ 12 → I1 b = I b := t.1.1
  have rw12 : ∀ r, r ≠ 0 → I1 12 r = I 12 r := fun r hr => by rw [e1]; exact sI_ro _ _ _ _ _ hr
  refine m_rng (lo := 0) (hi := n0) (by omega) (by decide) rfl (by rw [f0 2 (by decide)]; exact e2) (fun n _ hn en => q_f (by decide) ?_) (fun z => q_t rfl (m_bad1 (by decide) t.2 (by decide) (q_f (by decide) (g (fun n hn => z n (Nat.zero_le _) hn) _ (t.put 1)))))
  refine m_read (tx := tx) (n := n) X t.2 (by omega) en (by rw [rw12 3 (by decide)]; exact hX) (fun k hk => by rw [rw12 1 (by decide)]; exact hb k (by omega)) (fun st es I2 f2 g2 g5 g6 g3 => ?_) (fun c' oo es I2 f2 g2 g5 g5n g6 => ?_)
  · obtain ⟨W', hq⟩ := h n hn en st es
    intro I3 e3
    have k3 : ∀ k, k ≠ 7 → I3 12 0 k = I2 12 0 k := fun k hk => by rw [e3]; exact sI_ot _ _ _ _ hk
    have r3 : ∀ r, r ≠ 0 → I3 12 r = I2 12 r := fun r hr => by rw [e3]; exact sI_ro _ _ _ _ _ hr
    have b3 : ∀ b, b ≠ 12 → I3 b = I b := fun b hb => by
      rw [← o b hb, ← f2.1 b hb]
      funext r
      rw [e3]
      unfold sI
      exact rI_ne (fun z => hb z.1)
    have c3 : I3 12 0 12 = nI c := by rw [k3 12 (by decide), f2.2.2 12 (by decide), f0 12 (by decide)]; exact ec
    refine q_t (by rw [k3 5 (by decide)]; exact g5) (q_f (by decide) (m_remember hc c3 (fun Ik kk => ?_)))
    refine m_copy (n := 1802) rfl (by decide) (by decide) (by decide) (by decide) (by decide) ?_
    have ek3 : Ik 12 3 = st.2.1 := by rw [kk.2.2.2.1, r3 3 (by decide)]; exact g3
    rw [ek3]
    have eq2 := eqd_cpd st.2.1 (Ik 12 2)
    generalize cpd st.2.1 (Ik 12 2) 1802 = d'' at eq2
    have W'' : WF d'' := WF_eqd W' eq2
    have z := kp_put (d' := d'') kk
    refine m_wordsOfAll (by rw [rI_same]; exact W'') ?_
    rw [rI_same, sWords_eqd W' eq2]
    refine hq d'' _ eq2 ⟨fun b hb => by rw [z.2.1 b hb, b3 b hb], ?_, rI_same _ _ _ _, ?_, ?_, ?_⟩
    · obtain ⟨a1, a2, a3⟩ := z.1
      have row : ∀ r, r ≠ 0 → r ≠ 3 → I3 12 r = I 12 r := fun r h0 h3 => by rw [r3 r h0, f2.2.1 r h0 h3, rw12 r h0]
      refine ⟨a1, fun hc' => ?_, fun hc' => ?_⟩
      · have y := a2 hc'
        rw [row 2 (by decide) (by decide)] at y
        exact ⟨y.1, fun k hk => by rw [y.2 k hk, row _ (by omega) (by omega)]⟩
      · have y := a3 hc'
        rw [row 2 (by decide) (by decide)] at y
        refine ⟨y.1, fun k hk => ?_⟩
        have w := y.2 k hk
        rw [row _ (by omega) (by omega)] at w
        exact w
    · rw [rI_ne (by omega), kk.2.2.2.2.1 0 (by decide), k3 0 (by decide), f2.2.2 0 (by decide)]; exact t.2
    · rw [rI_ne (by omega), kk.2.2.2.2.1 2 (by decide), k3 2 (by decide)]; exact g2
    · rw [rI_ne (by omega), kk.2.2.2.2.1 7 (by decide), e3, sI_at]; exact g6
  · intro I3 e3
    have k3 : ∀ k, k ≠ 7 → I3 12 0 k = I2 12 0 k := fun k hk => by rw [e3]; exact sI_ot _ _ _ _ hk
    have r3 : ∀ r, r ≠ 0 → I3 12 r = I2 12 r := fun r hr => by rw [e3]; exact sI_ro _ _ _ _ _ hr
    have e5 : I3 12 0 5 = c' := by rw [k3 5 (by decide)]; exact g5
    refine q_f (by rw [e5]; exact g5n) (q_t rfl ?_)
    rw [e5]
    refine hE n hn en c' oo es I3 ⟨fun b hb => ?_, ?_, fun k hk => ?_, ?_, ?_, ?_, ?_⟩
    · rw [← o b hb, ← f2.1 b hb]
      funext r
      rw [e3]
      unfold sI
      exact rI_ne (fun z => hb z.1)
    · rw [r3 2 (by decide), f2.2.1 2 (by decide) (by decide), rw12 2 (by decide)]
    · rw [r3 _ (by omega), f2.2.1 _ (by omega) (by omega), rw12 _ (by omega)]
    · rw [k3 12 (by decide), f2.2.2 12 (by decide), f0 12 (by decide)]
    · rw [k3 0 (by decide), f2.2.2 0 (by decide)]; exact t.2
    · rw [k3 2 (by decide)]; exact g2
    · rw [e3, sI_at]; exact g6
end MLD
section BLD
variable {I : MI} {J : MJ}
theorem b_load {x : Int32} (V : INV I J) : f_X7_load x I J (AG (f_X8_load x)) (XR [0] (f_X8_load x)) := by
  obtain ⟨⟨W, Lv, C⟩, ⟨c, nx, H⟩, ⟨n0, h6, b1, b2, b3⟩, -⟩ := id V
  obtain ⟨hc, hn, ec, a2, a3, -⟩ := id H
  -- the bytes
  have hB : ∀ i, i < n0 → I 11 1 i = nI ((I 11 1 i).toNatClampNeg) ∧ I 12 1 i = nI ((I 11 1 i).toNatClampNeg) ∧ (I 11 1 i).toNatClampNeg < 256 := fun i hi => by
    obtain ⟨v, hv, e1, e2⟩ := b3 i hi
    have : (I 11 1 i).toNatClampNeg = v := by rw [e1]; exact nI_clamp (by omega)
    rw [this]
    exact ⟨e1, e2, hv⟩
  generalize htx : (fun i => (I 11 1 i).toNatClampNeg) = tx at *
  have hB' : ∀ i, i < n0 → I 11 1 i = nI (tx i) ∧ I 12 1 i = nI (tx i) ∧ tx i < 256 := fun i hi => by rw [← htx]; exact hB i hi
  refine c_rng (lo := 0) (hi := n0) (by omega) (by decide) rfl b1 (fun n _ hn0 en => ?_) (fun z => ⟨0, rfl, ?_⟩)
  · have inj : ∀ n', n' ≤ n0 → x = nI n' → n' = n := fun n' h e => nij e en (by omega) (by omega)
    refine k_read (tx := tx) (n := n) (I 12 3) (by omega) en (fun k hk => ⟨(hB' k (by omega)).1, (hB' k (by omega)).2.2⟩) (fun st es I1 J1 f m1 W' L' C' => ?_) (fun c' o es I1 J1 f m1 => ?_)
    · intro I6 e6 I7 e7
      have q7 : ∀ b r, ¬ (b = 11 ∧ r = 0) → I7 b r = I1 b r := fun b r h => by
        rw [e7, e6]
        unfold sI
        rw [rI_ne h, rI_ne h]
      have fr : ∀ b r, b ≠ 10 → ¬ (b = 11 ∧ (r = 0 ∨ r = 4 ∨ r = 5)) → I7 b r = I b r := fun b r h m => by rw [q7 b r (fun z => m ⟨z.1, Or.inl z.2⟩), f.1 b r h (fun z => m ⟨z.1, Or.inr z.2⟩)]
      have blk : ∀ b, b ≠ 10 → b ≠ 11 → I7 b = I b := fun b h h' => by funext r; exact fr b r h (fun z => h' z.1)
      have i12 : I7 12 = I 12 := blk 12 (by decide) (by decide)
      have H7 : HI I7 J1 c nx := HI_fr H (fun b _ h => blk b (by omega) (by omega)) (fun b _ h => f.2 b (by omega)) (fr 11 2 (by decide) (by omega)) (fun k hk => by rw [i12]) (by rw [i12])
      have C7 : RC I7 J1 0 (I 12 2) := RC_blk C (blk 0 (by decide) (by decide)) (f.2 0 (by decide))
      have C10 : RC I7 J1 10 st.2.1 := RC_blk C' (by funext r; exact q7 10 r (by omega)) rfl
      refine q_t rfl (k_keep W C7 hc hn H7.2.2.2.1 H7.2.2.2.2.1 (fun Ik Jk kk => ?_))
      refine g_copyFrom (by decide) W' (RC_blk C10 (kk.2.1 10 (by omega) (by decide)) (kk.2.2.2.2.2 10 (by omega))) (fun Ic Jc Cc f1 f2 => g_wordsOfHands W' Cc (fun J9 e9 e10 => ?_))
      have k1 : kcC (I 12 2) c nx I7 Ic J1 Jc := kc_of kk f1 f2
      have c12 : Ic 12 = I 12 := by rw [k1.2.1 12 (by decide) (by omega) (by decide)]; exact i12
      have c11 : ∀ r, r ≠ 2 → Ic 11 r = I7 11 r := k1.2.2.1
      refine mc_load (c := c) (n0 := n0) (tx := tx) (X := I 12 3) hc (by rw [c12]; exact ec) (by rw [c12]) h6 (by rw [c12]; exact b2) (fun i hi => by rw [c12]; exact ⟨(hB' i hi).2.1, (hB' i hi).2.2⟩) (fun n' hn' en' st' es' => ?_) (fun n' hn' en' c' o es' => ?_) (fun z => absurd en (z n hn0))
      · rw [inj n' hn' en', es] at es'
        cases es'
        refine ⟨W', fun d'' I2 eq2 m => post_of e10 ⟨m.2.2.2.1, rfl, ?_, rfl⟩⟩
        obtain ⟨m1', m2, m3, m4, m5, m6⟩ := m
        subst m3
        have k1' : kcC (I7 12 2) c nx I7 Ic J1 Jc := by rw [i12]; exact k1
        refine INV_change (I := I7) (J := x13 J1 J9) (by rw [i12]; exact W) (by rw [i12]; exact Lv) (HI_13 H7) (kc_13 hn k1' e9) m2 m1' (fun _ _ => rfl) (WF_eqd W' eq2) (LV_eqd L' eq2) (RC_blk (RC_eqd W' Cc eq2) rfl (e9 0 (by decide))) (BU_0 ?_ m5) ?_
        · rw [m1' 11 (by decide), c11 0 (by decide), e7, sI_ot _ _ _ _ (by decide), e6, sI_at]
        · rw [m1' 11 (by decide), c11 0 (by decide), m6, e7, sI_at, e6, sI_ro _ _ _ _ _ (by decide)]; exact m1
      · rw [inj n' hn' en', es] at es'
        cases es'
    · intro I6 e6 I7 e7
      have q7 : ∀ b r, ¬ (b = 11 ∧ r = 0) → I7 b r = I1 b r := fun b r h => by
        rw [e7, e6]
        unfold sI
        rw [rI_ne h, rI_ne h]
      have fr : ∀ b r, b ≠ 10 → ¬ (b = 11 ∧ (r = 0 ∨ r = 4 ∨ r = 5)) → I7 b r = I b r := fun b r h m => by rw [q7 b r (fun z => m ⟨z.1, Or.inl z.2⟩), f.1 b r h (fun z => m ⟨z.1, Or.inr z.2⟩)]
      have blk : ∀ b, b ≠ 10 → b ≠ 11 → I7 b = I b := fun b h h' => by funext r; exact fr b r h (fun z => h' z.1)
      have i12 : I7 12 = I 12 := blk 12 (by decide) (by decide)
      refine q_f (nz_load _ _ es) (fun J9 e9 e10 => ?_)
      refine mc_load (c := c) (n0 := n0) (tx := tx) (X := I 12 3) hc (by rw [i12]; exact ec) (by rw [i12]) h6 (by rw [i12]; exact b2) (fun i hi => by rw [i12]; exact ⟨(hB' i hi).2.1, (hB' i hi).2.2⟩) (fun n' hn' en' st' es' => ?_) (fun n' hn' en' c2 o2 es' I2 m => ?_) (fun z => absurd en (z n hn0))
      · rw [inj n' hn' en', es] at es'
        cases es'
      · rw [inj n' hn' en', es] at es'
        cases es'
        obtain ⟨m1', m2, m3, m4, m5, m6, m7⟩ := m
        refine post_of e10 ⟨m5, rfl, INV_buf V (fun b hb => by rw [m1' b (by omega), blk b (by omega) (by omega)]) (fun b hb => by rw [e9 b (by omega), f.2 b (by omega)]) ?_ (by rw [m2, i12]) (fun k hk => by rw [m3 k hk, i12]) (by rw [m4, i12]) ?_ m6 ?_, rfl⟩
        · rw [m1' 11 (by decide)]; exact fr 11 2 (by decide) (by omega)
        · rw [m1' 11 (by decide), e7, sI_ot _ _ _ _ (by decide), e6, sI_at]
        · rw [m1' 11 (by decide), m7, e7, sI_at, e6, sI_ro _ _ _ _ _ (by decide)]; exact m1
  · exact mc_load (c := c) (n0 := n0) (tx := tx) (X := I 12 3) hc ec rfl h6 b2 (fun i hi => ⟨(hB' i hi).2.1, (hB' i hi).2.2⟩) (fun n hn0 en => absurd en (z n (Nat.zero_le _) hn0)) (fun n hn0 en => absurd en (z n (Nat.zero_le _) hn0)) (fun _ I' t => bad_of (by decide +kernel) ⟨t.2, INV_m V t.1⟩)
end BLD
