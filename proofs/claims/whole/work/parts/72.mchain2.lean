/-! CHAINS: the model's sets, and what it tells of them -/
section MD
variable {I : MI} {J : MJ} {d : Nat → Int32}
theorem sBit_one {d : Nat → Int32} {p : Nat} : ∀ k, k < 8 → sBit d p (2 ^ k) = mLen d p k := by
  intro k hk
  have b := bit_one k hk
  unfold sBit
  have e : ∀ m, m ≤ 8 → sumN (fun j => if (2 ^ k).testBit j then mLen d p j else 0) m = if k < m then mLen d p k else 0 := by
    intro m
    induction m with
    | zero => intro _; rfl
    | succ m ih =>
      intro hm
      show sumN _ m + (if (2 ^ k).testBit m then mLen d p m else 0) = _
      rw [ih (by omega)]
      by_cases q : m = k
      · subst q
        rw [if_neg (by omega), b.1, if_pos rfl, if_pos (by omega), Nat.zero_add]
      · rw [b.2.2 m (by omega) q]
        by_cases z : k < m
        · rw [if_pos z, if_neg Bool.false_ne_true, if_pos (show k < m + 1 by omega)]; rfl
        · rw [if_neg z, if_neg Bool.false_ne_true, if_neg (show ¬ k < m + 1 by omega)]
  rw [e 8 (by omega), if_pos hk]
/-- in set t, behind the last one L -/
def ckL (d : Nat → Int32) (p r t L : Nat) (I s : MI) : Prop := ckF I s ∧ (∀ t' l, 0 < t' → t' < t → l < mMany d p → ckO d p r s t' l) ∧ ∀ l, l < L → ckO d p r s t l
theorem ckL_next {s : MI} {p r t L : Nat} (h : ckL d p r t L I s) (o : ckO d p r s t L) : ckL d p r t (L + 1) I s :=
  ⟨h.1, h.2.1, fun l hl => by
    by_cases q : l = L
    · subst q; exact o
    · exact h.2.2 l (by omega)⟩
theorem ckL_put {s s2 : MI} {p r t L q : Nat} {v : Int32} (h : ckL d p r t L I s) (hL : L < mMany d p) (h8 : mMany d p ≤ 8) (hq : q = 15 ∨ q = 16) (e : s2 = sI s 12 q (8 * t + L) v) : ckL d p r t L I s2 :=
  ⟨ckF.put h.1 hq e, fun t' l h1 h2 h3 => (h.2.1 t' l h1 h2 h3).put (by omega) e hq, fun l hl => (h.2.2 l hl).put (by omega) e hq⟩
theorem m_ck155 {x1 x2 x3 x4 x5 x6 x7 x8 s1 s2 : Int32} {K : MI → MJ → Prop} {rec : Int32 → MI → MJ → Prop} (hd : I 12 2 = d) (W : WF d) (p r t L : Nat) (hp : p < 4) (hr : r < 6) (ht : t < 256) (hL : L < mMany d p) (h : t.testBit L = true ∧ sBit d p t ≤ mFree d r) (h0 : t - 2 ^ L = 0)
    (e1 : x1 = nI p) (e2 : x2 = nI r) (e6 : x6 = nI (chC d p r t)) (e7 : x7 = nI L) (e8 : x8 = nI (8 * t + L)) (es1 : s1 = nI (if mHin d p L r = 0 then 1 else 0)) (es2 : s2 = nI (8 * t + L)) (s : MI) (hs : ckL d p r t L I s) (hk : ∀ s' (j : Int32), ckL d p r t (L + 1) I s' → j = nI (L + 1) → rec j s' J) : f_X8_layChains_J155 K rec x1 x2 x3 x4 x5 x6 x7 x8 s1 s2 s J := by
  have w := W.2.2.2 p hp
  refine ⟨vin _ _ (by omega) (by decide) es2, fun I113 e113 => ?_⟩
  rw [cln (by omega) es2] at e113
  have g1 := ckL_put hs hL w.1 (Or.inl rfl) e113
  have hd1 : I113 12 2 = d := by rw [g1.1 12 2 (by decide)]; exact hd
  refine M_lengthOf hd1 W p L e1 e7 hp (by omega) ⟨vin 3 _ (by decide) (by decide) rfl, M_rhymeThere hd1 W p L r e1 e7 e2 hp hL hr ⟨vin _ _ (by omega) (by decide) e8, fun I122 e122 j ej => ?_⟩⟩
  rw [cln (by omega) e8] at e122
  refine hk I122 j (ckL_next (ckL_put g1 hL w.1 (Or.inr rfl) e122) ⟨?_, fun z => ?_⟩) (by rw [ej, e7, nI_1])
  · rw [e122, sI_ro _ _ _ _ _ (by decide), e113, sI_at, es1, chW_1 h h0]
  · have z0 : mHin d p L r = 0 := by
      rw [chW_1 h h0] at z
      by_cases y : mHin d p L r = 0
      · exact y
      · rw [if_neg y] at z; exact absurd rfl z
    rw [chB_1 h h0, if_pos z0, e122, sI_at, e6, hd1, wf_c W (show okc (3 : Int32).toNatClampNeg from okc_lo (i := 3) (by decide)), nmul, nI_add, nI_add]
    rfl
theorem m_ck65 {x1 x2 x3 x4 x5 x6 : Int32} {K : MI → MJ → Prop} (hd : I 12 2 = d) (W : WF d) (p r t : Nat) (hp : p < 4) (hr : r < 6) (h1t : 0 < t) (ht : t < 2 ^ mMany d p)
    (e1 : x1 = nI p) (e2 : x2 = nI r) (e3 : x3 = nI (mMany d p)) (e4 : x4 = nI t) (e5 : x5 = nI (sBit d p t)) (e6 : x6 = nI (chC d p r t)) (hsb : sBit d p t < 2 ^ 31) (s : MI) (hs : ckL d p r t 0 I s) (h : ∀ s', ckL d p r t (mMany d p) I s' → K s' J) : f_X8_layChains_L65 x1 x2 x3 x4 x5 x6 K (mMany d p + 1) 0 s J := by
  have w := W.2.2.2 p hp
  have wr := W.2.2.1 r hr
  have p8 := pw_8 _ w.1
  refine up_inv (fun m (s : MI) j => f_X8_layChains_L65 x1 x2 x3 x4 x5 x6 K m j s J) (fun L s => ckL d p r t L I s) (mMany d p) (fun m s hs => ?_) (fun m s L hL hs ih => ?_) s hs
  · show f_X8_layChains_B65 _ _ _ _ _ _ _ _ _ s J
    exact q_t (by rw [e3]; exact Int32.le_refl _) (h s hs)
  · show f_X8_layChains_B65 _ _ _ _ _ _ _ _ _ s J
    refine q_f (by rw [e3]; exact nge hL (by omega)) (fun x8 e8 x9 e9 => ?_)
    have q8 : x8 = nI (8 * t + L) := by rw [e8, e4, nlit 8, nmul, nI_add]
    have q9 : x9 = nI (if t.testBit L then t - 2 ^ L else t) := by rw [e9, e4]; exact b_clr t (by omega) L (by omega)
    have v8 : vp_in x8 2048 := vin _ _ (by omega) (by decide) q8
    have c8 : x8.toNatClampNeg = 8 * t + L := cln (by omega) q8
    rw [c8]
    refine ⟨v8, fun I36 e36 => ⟨v8, fun I38 e38 => ?_⟩⟩
    have g1 := ckL_put hs hL w.1 (Or.inl rfl) e36
    have g2 := ckL_put g1 hL w.1 (Or.inr rfl) e38
    have hd2 : I38 12 2 = d := by rw [g2.1 12 2 (by decide)]; exact hd
    have z15 : I38 12 15 (8 * t + L) = 0 := by rw [e38, sI_ro _ _ _ _ _ (by decide), e36, sI_at]
    have z16 : I38 12 16 (8 * t + L) = 0 := by rw [e38, sI_at]
    have none : ¬ (t.testBit L = true ∧ sBit d p t ≤ mFree d r) → ∀ j : Int32, j = nI L + 1 → f_X8_layChains_L65 x1 x2 x3 x4 x5 x6 K m j I38 J := fun y j ej => ih I38 j (ckL_next g2 ⟨by rw [z15, chW_no y]; rfl, fun z => absurd (chW_no y) z⟩) (by rw [ej, nI_1])
    by_cases hB : t.testBit L = true
    · rw [if_pos hB] at q9
      have lt := tb_lt hB
      refine q_eq (t - 2 ^ L) t (by omega) (by omega) q9 e4 (fun z => absurd z (by omega)) (fun _ => M_free hd2 W r e2 hr (q_le (sBit d p t) (mFree d r) hsb (by show _ - _ < _; omega) e5 rfl (fun hf => q_eq (t - 2 ^ L) 0 (by omega) (by decide) q9 rfl (fun h0 => ?_) (fun h0 => ?_)) (fun hf => none (fun y => absurd y.2 (by omega)))))
      · have hb : mHin d p L r < 5 := by
          unfold mHin
          repeat' split
          all_goals omega
        refine M_hinders hd2 W p L r e1 rfl e2 hp hL hr (q_eq (mHin d p L r) 0 (by omega) (by decide) rfl rfl (fun z => ?_) (fun z => ?_))
        · exact m_ck155 hd W p r t L hp hr (by omega) hL ⟨hB, hf⟩ h0 e1 e2 e6 rfl q8 (by rw [if_pos z]; rfl) q8 I38 g2 ih
        · exact m_ck155 hd W p r t L hp hr (by omega) hL ⟨hB, hf⟩ h0 e1 e2 e6 rfl q8 (by rw [if_neg z]; rfl) q8 I38 g2 ih
      · refine ⟨mMany d p + 1, m_ck195 hd W p r t L hp hr ht hL hB h0 e1 e3 e6 rfl q8 q9 I38 ⟨g2.1, g2.2.1, g2.2.2, z15, z16⟩ (fun s' c j ej => ih s' j ⟨c.1, c.2.1, fun l hl => ?_⟩ (by rw [ej, nI_1]))⟩
        by_cases q : l = L
        · subst q
          refine ⟨?_, fun _ => ?_⟩
          · rw [chW_s ⟨hB, hf⟩ h0]; exact c.2.2.2.1
          · rw [chB_s ⟨hB, hf⟩ h0]; exact c.2.2.2.2
        · exact c.2.2.1 l (by omega)
    · rw [if_neg hB] at q9
      exact q_t (by rw [q9, e4]) (none (fun y => hB y.1))
theorem sBit_le {d : Nat → Int32} (W : WF d) {p t : Nat} (hp : p < 4) (ht : t < 2 ^ mMany d p) : sBit d p t ≤ 64 := by
  have w := W.2.2.2 p hp
  refine Nat.le_trans (sumN_le (c := 8) 8 (fun k hk => ?_)) (by decide)
  split
  · next q => exact ((w.2 k (bit_lt ht q)).1).2
  · exact Nat.zero_le _
theorem m_layChains {x1 x2 : Int32} {Q : MI → MJ → Prop} (hd : I 12 2 = d) (W : WF d) (p r : Nat) (hp : p < 4) (hr : r < 6) (e1 : x1 = nI p) (e2 : x2 = nI r) (h : ∀ s', ckF I s' → (∀ t l, 0 < t → t < 2 ^ mMany d p → l < mMany d p → ckO d p r s' t l) → Q s' J) : f_X8_layChains x1 x2 I J Q := by
  have w := W.2.2.2 p hp
  have wr := W.2.2.1 r hr
  have p8 := pw_8 _ w.1
  have pos := Nat.two_pow_pos (mMany d p)
  have b4 : dn d 4 ≤ 99 := W.2.1.2.2.2.2.1
  have sh := b_shl (mMany d p) (by omega)
  subst hd
  refine m_many W p e1 hp ⟨_, up_invF (fun m (s : MI) j => f_X8_layChains_L10 x1 x2 (nI (mMany (I 12 2) p)) Q m j s J) (fun t s => ckL (I 12 2) p r t 0 I s) 1 (2 ^ mMany (I 12 2) p) pos (fun m s hs => ?_) (fun m s t h1 ht hs ih => ?_) I ⟨fun _ _ _ => rfl, fun t' l h1 h2 => absurd h2 (by omega), fun l hl => absurd hl (Nat.not_lt_zero l)⟩⟩
  · show f_X8_layChains_B10 _ _ _ _ _ _ s J
    exact q_t (by rw [sh]; exact Int32.le_refl _) (h s hs.1 (fun t l a b c => hs.2.1 t l a b c))
  · show f_X8_layChains_B10 _ _ _ _ _ _ s J
    have hds : s 12 2 = I 12 2 := hs.1 12 2 (by decide)
    have hsb := sBit_le W hp ht
    have fin : ∀ s5 : Int32, s5 = nI (chC (I 12 2) p r t) → f_X8_layChains_J60 Q (f_X8_layChains_L10 x1 x2 (nI (mMany (I 12 2) p)) Q m) x1 x2 (nI (mMany (I 12 2) p)) (nI t) (nI (sBit (I 12 2) p t)) s5 s J := fun s5 e5 =>
      ⟨_, m_ck65 (I := I) rfl W p r t hp hr h1 ht e1 e2 rfl rfl rfl e5 (by omega) s hs (fun s' c j ej => ih s' j ⟨c.1, fun t' l a b c2 => by
        by_cases q : t' = t
        · subst q; exact c.2.2 l c2
        · exact c.2.1 t' l a (by omega) c2, fun l hl => absurd hl (Nat.not_lt_zero l)⟩ (by rw [ej, nI_1]))⟩
    refine q_f (by rw [sh]; exact nge ht (by omega)) (M_lettersOf hds W p t e1 rfl hp (by omega) (M_free hds W r e2 hr (q_eq (sBit (I 12 2) p t) (mFree (I 12 2) r) (by omega) (by show _ - _ < _; omega) rfl rfl (fun z => ⟨vin 4 _ (by decide) (by decide) rfl, M_ofRow hds r 2 e2 rfl hr (by decide) (M_sizeOf t rfl (by omega) (fin _ ?_))⟩) (fun z => fin _ ?_))))
    · unfold chC
      rw [if_pos z, hds, wf_c W (show okc (4 : Int32).toNatClampNeg from okc_lo (i := 4) (by decide)), wf_c W (okc_row hr (k := 2) (by decide) (by decide)), nI_add, nmul]
      rfl
    · unfold chC
      rw [if_neg z]
      rfl
end MD
