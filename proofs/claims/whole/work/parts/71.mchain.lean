/-! CHAINS: the model -/
theorem b_shl : ∀ k, k < 9 → ((1 : Int32) <<< (nI k &&& 31)) = nI (2 ^ k) := by decide +kernel
theorem b_clr : ∀ m, m < 256 → ∀ k, k < 8 → (nI m &&& (((1 : Int32) <<< (nI k &&& 31)) ^^^ (-1 : Int32))) = nI (if m.testBit k then m - 2 ^ k else m) := by decide +kernel
section MC
variable {I : MI} {J : MJ} {d : Nat → Int32}
theorem M_free {x1 : Int32} {Q : Int32 → MI → MJ → Prop} (hd : I 12 2 = d) (W : WF d) (r : Nat) (e1 : x1 = nI r) (hr : r < 6) (h : Q (nI (mFree d r)) I J) : f_X8_free x1 I J Q := by subst hd; exact m_free W r e1 hr h
theorem M_lettersOf {x1 x2 : Int32} {Q : Int32 → MI → MJ → Prop} (hd : I 12 2 = d) (W : WF d) (p m : Nat) (e1 : x1 = nI p) (e2 : x2 = nI m) (hp : p < 4) (hm : m < 256) (h : Q (nI (sBit d p m)) I J) : f_X8_lettersOf x1 x2 I J Q := by subst hd; exact m_lettersOf W p m e1 e2 hp hm h
theorem M_hinders {x1 x2 x3 : Int32} {Q : Int32 → MI → MJ → Prop} (hd : I 12 2 = d) (W : WF d) (p k r : Nat) (e1 : x1 = nI p) (e2 : x2 = nI k) (e3 : x3 = nI r) (hp : p < 4) (hk : k < mMany d p) (hr : r < 6) (h : Q (nI (mHin d p k r)) I J) : f_X8_hinders x1 x2 x3 I J Q := by subst hd; exact m_hinders W p k r e1 e2 e3 hp hk hr h
theorem M_rhymeThere {x1 x2 x3 : Int32} {Q : Int32 → MI → MJ → Prop} (hd : I 12 2 = d) (W : WF d) (p k r : Nat) (e1 : x1 = nI p) (e2 : x2 = nI k) (e3 : x3 = nI r) (hp : p < 4) (hk : k < mMany d p) (hr : r < 6) (h : Q (nI (mRht d p k r)) I J) : f_X8_rhymeThere x1 x2 x3 I J Q := by subst hd; exact m_rhymeThere W p k r e1 e2 e3 hp hk hr h
theorem M_lengthOf {x1 x2 : Int32} {Q : Int32 → MI → MJ → Prop} (hd : I 12 2 = d) (W : WF d) (p k : Nat) (e1 : x1 = nI p) (e2 : x2 = nI k) (hp : p < 4) (hk : k < 8) (h : Q (nI (mLen d p k)) I J) : f_X8_lengthOf x1 x2 I J Q := by
  subst hd
  refine m_lengthOf p k e1 e2 hp hk ?_
  rw [w_len W hp hk]
  exact h
theorem M_ofRow {x1 x2 : Int32} {Q : Int32 → MI → MJ → Prop} (hd : I 12 2 = d) (r k : Nat) (e1 : x1 = nI r) (e2 : x2 = nI k) (hr : r < 6) (hk : k < 45) (h : Q (d (rA r + k)) I J) : f_X8_ofRow x1 x2 I J Q := by subst hd; exact m_ofRow r k e1 e2 hr hk h
theorem M_rhymeOf {x1 x2 x3 x4 : Int32} {Q : Int32 → MI → MJ → Prop} (hd : I 12 2 = d) (W : WF d) (a la b lb : Nat) (e1 : x1 = nI a) (e2 : x2 = nI la) (e3 : x3 = nI b) (e4 : x4 = nI lb) (wa : wrd d a la) (wb : wrd d b lb) (h : Q (nI (rh d a la b lb)) I J) : f_X8_rhymeOf x1 x2 x3 x4 I J Q := by subst hd; exact m_rhymeOf W a la b lb e1 e2 e3 e4 wa wb h
theorem M_areSame {x1 x2 x3 x4 : Int32} {Q : Int32 → MI → MJ → Prop} (hd : I 12 2 = d) (a la b lb : Nat) (e1 : x1 = nI a) (e2 : x2 = nI la) (e3 : x3 = nI b) (e4 : x4 = nI lb) (wa : wrd d a la) (wb : wrd d b lb) (h : Q (if smw d a la b lb then 1 else 0) I J) : f_X8_areSame x1 x2 x3 x4 I J Q := by subst hd; exact m_areSame a la b lb e1 e2 e3 e4 wa wb h
theorem M_sizeOf {x : Int32} {Q : Int32 → MI → MJ → Prop} (m : Nat) (e : x = nI m) (hm : m < 256) (h : Q (nI (pop m)) I J) : f_X8_sizeOf x I J Q := by
  refine ⟨9, up_sum (fun n a i => f_X8_sizeOf_L4 x _ n a i I J) (fun v => Q v I J) 8 (fun k => if m.testBit k then 1 else 0) (fun n acc h => ?_) (fun n acc i hi h => ?_) h⟩
  · show f_X8_sizeOf_B4 _ _ _ _ _ I J
    exact q_t (Int32.le_refl _) h
  · show f_X8_sizeOf_B4 _ _ _ _ _ I J
    exact q_f (nge hi (by decide)) (fun a ea j ej => h a j (by rw [ea, e, bt_at m hm i hi, nI_add]) (by rw [ej, nI_1]))
theorem M_max {x y : Int32} {Q : Int32 → MI → MJ → Prop} (a b : Nat) (ha : a < 2 ^ 31) (hb : b < 2 ^ 31) (ex : x = nI a) (ey : y = nI b) (h : Q (nI (max a b)) I J) : f_X8_max x y I J Q := by
  refine q_le a b ha hb ex ey (fun q => ?_) (fun q => ?_)
  · rw [ey, ← Nat.max_eq_right q]; exact h
  · rw [ex, ← Nat.max_eq_left (Nat.le_of_lt q)]; exact h
theorem M_follows {x1 x2 x3 : Int32} {Q : Int32 → MI → MJ → Prop} (hd : I 12 2 = d) (W : WF d) (p a b : Nat) (e1 : x1 = nI p) (e2 : x2 = nI a) (e3 : x3 = nI b) (hp : p < 4) (ha : a < mMany d p) (hb : b < mMany d p) (h : Q (if chF d p a b then 1 else 0) I J) : f_X8_follows x1 x2 x3 I J Q := by
  have w := W.2.2.2 p hp
  have wa := wrd_hand W hp ha
  have wb := wrd_hand W hp hb
  have b2 : dn d 2 ≤ 4 := W.2.1.2.2.1.2
  have hR := rh_le d (wA p a + 1) (mLen d p a) (wA p b + 1) (mLen d p b)
  have h8 := wa.1
  refine m_wordAt p a e1 e2 (fun x4 e4 => m_wordAt p b e1 e3 (fun x5 e5 => M_lengthOf hd W p a e1 e2 hp (by omega) (M_lengthOf hd W p b e1 e3 hp (by omega) ?_)))
  have q4 : x4 = nI (wA p a + 1) := by rw [e4, nlit 1, nI_add]
  have q5 : x5 = nI (wA p b + 1) := by rw [e5, nlit 1, nI_add]
  refine M_areSame hd _ _ _ _ q4 rfl q5 rfl wa wb ?_
  unfold chF chR at h
  by_cases q : smw d (wA p a + 1) (mLen d p a) (wA p b + 1) (mLen d p b) = true
  · rw [if_pos q]
    rw [q] at h
    exact q_f (by decide) h
  · rw [if_neg q]
    rw [Bool.eq_false_iff.mpr q] at h
    refine q_t rfl (M_lengthOf hd W p a e1 e2 hp (by omega) (M_lengthOf hd W p b e1 e3 hp (by omega) (M_rhymeOf hd W _ _ _ _ q4 rfl q5 rfl wa wb ⟨vin 2 _ (by decide) (by decide) rfl, ?_⟩)))
    refine q_lt _ (dn d 2) (by omega) (by omega) rfl (by rw [hd]; exact wf_c W (okc_lo (i := 2) (by decide))) (fun z => ?_) (fun z => ?_)
    · rw [decide_eq_false (by omega)] at h; exact h
    · rw [decide_eq_true z] at h; exact h
/-- an entry of the tables says the chains -/
def ckO (d : Nat → Int32) (p r : Nat) (s : MI) (t l : Nat) : Prop := s 12 15 (8 * t + l) = nI (chW d p r t l) ∧ (¬ chW d p r t l = 0 → s 12 16 (8 * t + l) = nI (chB d p r t l))
def ckF (I s : MI) : Prop := ∀ b' r', ¬ (b' = 12 ∧ (r' = 15 ∨ r' = 16)) → s b' r' = I b' r'
theorem ckF.put {s s2 : MI} {q i : Nat} {v : Int32} (h : ckF I s) (hq : q = 15 ∨ q = 16) (e : s2 = sI s 12 q i v) : ckF I s2 := fun b' r' n => by
  rw [e]
  unfold sI
  rw [rI_ne (fun z => n ⟨z.1, by omega⟩)]
  exact h b' r' n
/-- in set t, the last one L: what is there from the words before b -/
def ckI (d : Nat → Int32) (p r t L b : Nat) (I s : MI) : Prop := ckF I s ∧ (∀ t' l, 0 < t' → t' < t → l < mMany d p → ckO d p r s t' l) ∧ (∀ l, l < L → ckO d p r s t l) ∧ s 12 15 (8 * t + L) = nI (sumN (cWf d p r t L) b) ∧ s 12 16 (8 * t + L) = nI (maxN (cBf d p r t L) b)
theorem ckO.put {s s2 : MI} {p r t l q i : Nat} {v : Int32} (h : ckO d p r s t l) (hi : 8 * t + l ≠ i) (e : s2 = sI s 12 q i v) (hq : q = 15 ∨ q = 16) : ckO d p r s2 t l := by
  obtain ⟨h1, h2⟩ := h
  rcases hq with hq | hq
  · subst hq
    exact ⟨by rw [e, sI_ot _ _ _ _ hi]; exact h1, fun z => by rw [e, sI_ro _ _ _ _ _ (by decide)]; exact h2 z⟩
  · subst hq
    exact ⟨by rw [e, sI_ro _ _ _ _ _ (by decide)]; exact h1, fun z => by rw [e, sI_ot _ _ _ _ hi]; exact h2 z⟩
theorem cBf_le (W : WF d) {p r : Nat} (hp : p < 4) (hr : r < 6) {t l b : Nat} (ht : t < 2 ^ mMany d p) (hl : t.testBit l = true) (hb : b < mMany d p) : cBf d p r t l b ≤ 100000 := by
  have w := W.2.2.2 p hp
  have p8 := pw_8 _ w.1
  have b3 : dn d 3 ≤ 9 := W.2.1.2.2.2.1
  have ln := bit_lt ht hl
  have hl8 := ((w.2 l ln).1).2
  have hb8 := ((w.2 b hb).1).2
  have hc := chC_le (p := p) W hr (show t < 256 by omega)
  have h1 : dn d 3 * chR d p b l ≤ 9 * 8 := Nat.mul_le_mul b3 (Nat.le_trans (chR_le b l) hb8)
  have lt := tb_lt hl
  have h2 := chB_le (r := r) W hp hr (t - 2 ^ l) b (by omega)
  have h3 := pop_le (t - 2 ^ l) (by omega)
  unfold cBf
  split <;> omega
/-- the words before, of one set and one last word -/
theorem m_ck195 {x1 x3 x6 x7 x8 x9 : Int32} {K : MI → MJ → Prop} (hd : I 12 2 = d) (W : WF d) (p r t L : Nat) (hp : p < 4) (hr : r < 6) (ht : t < 2 ^ mMany d p) (hL : L < mMany d p) (hB : t.testBit L = true) (h0 : ¬ t - 2 ^ L = 0)
    (e1 : x1 = nI p) (e3 : x3 = nI (mMany d p)) (e6 : x6 = nI (chC d p r t)) (e7 : x7 = nI L) (e8 : x8 = nI (8 * t + L)) (e9 : x9 = nI (t - 2 ^ L)) (s : MI) (hs : ckI d p r t L 0 I s) (h : ∀ s', ckI d p r t L (mMany d p) I s' → K s' J) : f_X8_layChains_L195 x1 x3 x6 x7 x8 x9 K (mMany d p + 1) 0 s J := by
  have w := W.2.2.2 p hp
  have p8 := pw_8 _ w.1
  have lt := tb_lt hB
  have b3 : dn d 3 ≤ 9 := W.2.1.2.2.2.1
  have hL8 := ((w.2 L hL).1).2
  have hc := chC_le (p := p) W hr (show t < 256 by omega)
  have hbs := bit_sub t (by omega) L (by omega) hB
  refine up_inv (fun m (s : MI) j => f_X8_layChains_L195 x1 x3 x6 x7 x8 x9 K m j s J) (fun b s => ckI d p r t L b I s) (mMany d p) (fun m s hs => ?_) (fun m s b hb hs ih => ?_) s hs
  · show f_X8_layChains_B195 _ _ _ _ _ _ _ _ _ s J
    exact q_t (by rw [e3]; exact Int32.le_refl _) (h s hs)
  · show f_X8_layChains_B195 _ _ _ _ _ _ _ _ _ s J
    obtain ⟨f, o1, o2, o3, o4⟩ := hs
    have hds : s 12 2 = d := by rw [f 12 2 (by decide)]; exact hd
    have hb8 := ((w.2 b hb).1).2
    have skip : cWf d p r t L b = 0 → ∀ j : Int32, j = nI b + 1 → f_X8_layChains_L195 x1 x3 x6 x7 x8 x9 K m j s J := fun z j ej => ih s j ⟨f, o1, o2, by
        rw [o3]
        show _ = nI (sumN (cWf d p r t L) b + cWf d p r t L b)
        rw [z, Nat.add_zero], by
        rw [o4]
        show _ = nI (max (maxN (cBf d p r t L) b) (cBf d p r t L b))
        have : cBf d p r t L b = 0 := by
          unfold cWf at z
          unfold cBf
          split
          · next y => rw [if_pos y.1] at z; exact absurd z y.2
          · rfl
        rw [this, Nat.max_eq_left (Nat.zero_le _)]⟩ (by rw [ej, nI_1])
    refine q_f (by rw [e3]; exact nge hb (by omega)) (fun x11 e11 => ?_)
    have q11 : x11 = nI (8 * (t - 2 ^ L) + b) := by rw [e11, e9, nlit 8, nmul, nI_add]
    have v11 : vp_in x11 2048 := vin _ _ (by omega) (by decide) q11
    have c11 : x11.toNatClampNeg = 8 * (t - 2 ^ L) + b := cln (by omega) q11
    have v8 : vp_in x8 2048 := vin _ _ (by omega) (by decide) e8
    have c8 : x8.toNatClampNeg = 8 * t + L := cln (by omega) e8
    have ebit : ((x9 >>> (nI b &&& 31)) &&& (1 : Int32)) = nI (if (t - 2 ^ L).testBit b then 1 else 0) := by rw [e9]; exact bt_at _ (by omega) b (by omega)
    rw [ebit, c11, c8]
    have ob := o1 (t - 2 ^ L) b (by omega) lt hb
    have Wlt := chW_lt (r := r) (t := t - 2 ^ L) W hp b (by omega)
    refine q_eq (if (t - 2 ^ L).testBit b then 1 else 0) 0 (by split <;> decide) (by decide) rfl rfl (fun z => skip ?_) (fun z => ⟨v11, ?_⟩)
    · unfold cWf
      rw [chW_no (t := t - 2 ^ L) (l := b) (fun y => by rw [if_pos y.1] at z; cases z)]
      split <;> rfl
    · rw [ob.1]
      refine q_eq (chW d p r (t - 2 ^ L) b) 0 Wlt (by decide) rfl rfl (fun z2 => skip ?_) (fun z2 => ?_)
      · unfold cWf
        rw [z2]
        split <;> rfl
      · refine M_follows hds W p b L e1 rfl e7 hp hb hL ?_
        by_cases hF : chF d p b L = true
        · rw [if_pos hF]
          refine q_f (by decide) ⟨v8, v11, v8, fun I69 e69 => ?_⟩
          have g := ckF.put f (Or.inl rfl) e69
          have hd9 : I69 12 2 = d := by rw [g 12 2 (by decide)]; exact hd
          have wbd := wrd_hand W hp hb
          have wLd := wrd_hand W hp hL
          refine m_wordAt p b e1 rfl (M_lengthOf hd9 W p b e1 rfl hp (by omega) (m_wordAt p L e1 e7 (M_lengthOf hd9 W p L e1 e7 hp (by omega) (M_rhymeOf hd9 W (wA p b + 1) _ (wA p L + 1) _ (by rw [nlit 1, nI_add]) rfl (by rw [nlit 1, nI_add]) rfl wbd wLd ⟨v8, v11, M_lengthOf hd9 W p L e1 e7 hp (by omega) ⟨vin 3 _ (by decide) (by decide) rfl, ?_⟩⟩))))
          have i3 : I69 12 2 (3 : Int32).toNatClampNeg = nI (dn d 3) := by rw [hd9]; exact wf_c W (okc_lo (i := 3) (by decide))
          have m8 : I69 12 16 (8 * t + L) = nI (maxN (cBf d p r t L) b) := by rw [e69, sI_ro _ _ _ _ _ (by decide)]; exact o4
          have m11 : I69 12 16 (8 * (t - 2 ^ L) + b) = nI (chB d p r (t - 2 ^ L) b) := by rw [e69, sI_ro _ _ _ _ _ (by decide)]; exact ob.2 z2
          have eB : cBf d p r t L b = chB d p r (t - 2 ^ L) b + mLen d p L + dn d 3 * chR d p b L + chC d p r t := if_pos ⟨hF, z2⟩
          have ev : (((I69 12 16 (8 * (t - 2 ^ L) + b) + nI (mLen d p L)) + (I69 12 2 (3 : Int32).toNatClampNeg * nI (rh d (wA p b + 1) (mLen d p b) (wA p L + 1) (mLen d p L)))) + x6) = nI (cBf d p r t L b) := by
            rw [m11, i3, e6, nmul, nI_add, nI_add, nI_add, eB]
            rfl
          refine M_max (maxN (cBf d p r t L) b) (cBf d p r t L b) ?_ ?_ m8 ev ⟨v8, fun I95 e95 j ej => ih I95 j ⟨ckF.put g (Or.inr rfl) e95, fun t' l h1 h2 h3 => ?_, fun l hl => ?_, ?_, ?_⟩ (by rw [ej, nI_1])⟩
          · exact Nat.lt_of_le_of_lt (maxN_le (c := 100000) _ (fun q hq => cBf_le W hp hr ht hB (by omega))) (by decide)
          · exact Nat.lt_of_le_of_lt (cBf_le W hp hr ht hB hb) (by decide)
          · exact ((o1 t' l h1 h2 h3).put (by omega) e69 (Or.inl rfl)).put (by omega) e95 (Or.inr rfl)
          · exact ((o2 l hl).put (by omega) e69 (Or.inl rfl)).put (by omega) e95 (Or.inr rfl)
          · rw [e95, sI_ro _ _ _ _ _ (by decide), e69, sI_at, o3, ob.1, nI_add]
            show _ = nI (sumN (cWf d p r t L) b + cWf d p r t L b)
            rw [show cWf d p r t L b = chW d p r (t - 2 ^ L) b from if_pos hF]
          · rw [e95, sI_at]
            rfl
        · rw [if_neg hF]
          exact q_t rfl (skip (if_neg hF))
end MC
