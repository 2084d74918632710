/-! THE CLASS' WORDS: five bits a letter, the last lowest -/
/-- the n letters at a, packed -/
def pkN (d : Nat → Int32) (a : Nat) : Nat → Nat
  | 0 => 0
  | n + 1 => 32 * pkN d a n + (dn d (a + n) + 1)
theorem pkN_s (d : Nat → Int32) (a n : Nat) : pkN d a (n + 1) = 32 * pkN d a n + (dn d (a + n) + 1) := rfl
theorem and0 : lN 0 &&& (31 : Int64) = 0 := by decide +kernel
theorem pkN_lt {d : Nat → Int32} {a : Nat} : ∀ {n : Nat}, (∀ j, j < n → dn d (a + j) < 26) → pkN d a n < 32 ^ n
  | 0, _ => Nat.one_pos
  | n + 1, h => by
    have h1 := pkN_lt (n := n) (fun j hj => h j (by omega))
    have h2 := h n (by omega)
    unfold pkN
    rw [Nat.pow_succ]
    omega
theorem pkN_40 {d : Nat → Int32} {a n : Nat} (w : wrd d a n) : pkN d a n < 2 ^ 40 := by
  have h1 := pkN_lt (fun j hj => (w.2.2 j hj).2)
  have h2 : 32 ^ n ≤ 32 ^ 8 := Nat.pow_le_pow_right (by decide) w.1
  have h3 : (32 : Nat) ^ 8 = 2 ^ 40 := by decide
  omega
theorem wrd_pre {d : Nat → Int32} {a n m : Nat} (w : wrd d a n) (h : m ≤ n) : wrd d a m := ⟨by have := w.1; omega, by have := w.2.1; omega, fun j hj => w.2.2 j (by omega)⟩
theorem pk_ne {d : Nat → Int32} {a n : Nat} : ¬ pkN d a (n + 1) = 0 := by unfold pkN; omega
theorem lN_ne0 {n : Nat} (h : n < 2 ^ 40) (h0 : ¬ n = 0) : ¬ lN n = (0 : Int64) := fun q => h0 ((pk_lEQ (b := 0) (by omega) (by decide)).mp q)
theorem pk_and31 {d : Nat → Int32} {a n : Nat} (w : wrd d a (n + 1)) : lN (pkN d a (n + 1)) &&& (31 : Int64) = lN (dn d (a + n) + 1) := by
  have h := pkN_40 w
  have h2 := (w.2.2 n (by omega)).2
  refine (wb_mask (k := 5) (by omega) (by decide)).trans ?_
  congr 1
  rw [pkN_s]
  omega
theorem pk_shr5 {d : Nat → Int32} {a n : Nat} (w : wrd d a (n + 1)) : (((lN (pkN d a (n + 1))).toUInt64 >>> ((5 : Int32).toInt64.toUInt64 &&& Int64.toUInt64 63)).toInt64) = lN (pkN d a n) := by
  have h := pkN_40 w
  have h2 := (w.2.2 n (by omega)).2
  refine (wb_shr (k := 5) (by omega) (by decide)).trans ?_
  congr 1
  rw [pkN_s]
  omega
section CW
variable {I : MI} {J : MJ} {d : Nat → Int32}
theorem k_lenL {K : Int32 → MI → MJ → Prop} {a : Nat} : ∀ (n k : Nat) (x : Int32) (y : Int64), wrd d a n → k + n ≤ 8 → x = nI k → y = lN (pkN d a n) → K (nI (k + n)) I J → f_X6_length_L4 K (n + 1) x y I J := by
  intro n
  induction n with
  | zero =>
    intro k x y w hk ex ey h
    show f_X6_length_B4 K _ x y I J
    exact q_t (by rw [ey]; rfl) (by rw [ex]; exact h)
  | succ n ih =>
    intro k x y w hk ex ey h
    show f_X6_length_B4 K (f_X6_length_L4 K (n + 1)) x y I J
    refine q_f (by rw [ey]; exact lN_ne0 (pkN_40 w) pk_ne) (q_f (by rw [ex]; exact nI_ge (a := k) (b := 8) (by omega) (by decide)) (fun x2 e2 y2 e3 => ?_))
    refine ih (k + 1) x2 y2 (wrd_pre w (by omega)) (by omega) (by rw [e2, ex]; exact nI_1 k) (by rw [e3, ey]; exact pk_shr5 w) ?_
    rw [show k + 1 + n = k + (n + 1) by omega]
    exact h
theorem k_len {Q : Int32 → MI → MJ → Prop} {x : Int64} (a n : Nat) (w : wrd d a n) (e : x = lN (pkN d a n)) (h : Q (nI n) I J) : f_X6_length x I J Q :=
  ⟨n + 1, k_lenL n 0 0 x w (by have := w.1; omega) rfl e (by rw [Nat.zero_add]; exact h)⟩
theorem pk_at {d : Nat → Int32} {a : Nat} : ∀ {n : Nat}, wrd d a n → ∀ {j : Nat}, j < n → pkN d a n / 2 ^ (5 * (n - 1 - j)) % 32 = dn d (a + j) + 1
  | 0, _, j, hj => absurd hj (by omega)
  | n + 1, w, j, hj => by
    have h2 := (w.2.2 n (by omega)).2
    by_cases q : j = n
    · subst q
      rw [show 5 * (j + 1 - 1 - j) = 0 by omega]
      unfold pkN
      omega
    · have ih := pk_at (n := n) (wrd_pre w (by omega)) (j := j) (by omega)
      rw [show 5 * (n + 1 - 1 - j) = 5 + 5 * (n - 1 - j) by omega, Nat.pow_add, ← Nat.div_div_eq_div_mul]
      have e : pkN d a (n + 1) / 2 ^ 5 = pkN d a n := by rw [pkN_s]; omega
      rw [e]
      exact ih
theorem k_letter {Q : Int32 → MI → MJ → Prop} {x : Int64} {y : Int32} (a n j : Nat) (w : wrd d a n) (e : x = lN (pkN d a n)) (ey : y = nI j) (hj : j < n) (h : Q (d (a + j)) I J) : f_X6_letterAt x y I J Q := by
  have hn := w.1
  have h40 := pkN_40 w
  refine k_len a n w e (fun z ez => ?_)
  have e1 : (5 : Int32) * z = nI (5 * (n - 1 - j)) := by rw [ez, ey, nlit 1, nsub (by omega), nsub (by omega), nlit 5, nmul]
  rw [e1, e, wb_shr (by omega) (by omega)]
  have e2 : lN (pkN d a n / 2 ^ (5 * (n - 1 - j))) &&& (31 : Int64) = lN (dn d (a + j) + 1) := by
    refine (wb_mask (k := 5) (Nat.lt_of_le_of_lt (Nat.div_le_self _ _) (by omega)) (by decide)).trans ?_
    congr 1
    exact pk_at w hj
  rw [e2, lN_i, nlit 1, nsub (by omega), Nat.add_sub_cancel, ← (w.2.2 j hj).1]
  exact h
/-- two packed words are equal just where they are the same letter by letter -/
theorem pk_inj {a b : Nat} : ∀ {n m : Nat}, wrd d a n → wrd d b m → pkN d a n = pkN d b m → n = m ∧ ∀ j, j < n → dn d (a + j) = dn d (b + j)
  | 0, 0, _, _, _ => ⟨rfl, fun j hj => absurd hj (by omega)⟩
  | 0, m + 1, _, _, h => absurd h.symm pk_ne
  | n + 1, 0, _, _, h => absurd h pk_ne
  | n + 1, m + 1, wa, wb, h => by
    have h1 := (wa.2.2 n (by omega)).2
    have h2 := (wb.2.2 m (by omega)).2
    unfold pkN at h
    have e1 : pkN d a n = pkN d b m := by omega
    have e2 : dn d (a + n) = dn d (b + m) := by omega
    obtain ⟨e3, e4⟩ := pk_inj (wrd_pre wa (by omega)) (wrd_pre wb (by omega)) e1
    subst e3
    refine ⟨rfl, fun j hj => ?_⟩
    by_cases q : j = n
    · rw [q]; exact e2
    · exact e4 j (by omega)
theorem smF_iff {a b : Nat} : ∀ (f k : Nat), smF d a b f k = true ↔ ∀ j, k ≤ j → j < k + f → dn d (a + j) = dn d (b + j)
  | 0, k => ⟨fun _ j h1 h2 => absurd h2 (by omega), fun _ => rfl⟩
  | f + 1, k => by
    unfold smF
    rw [Bool.and_eq_true, decide_eq_true_eq, smF_iff f (k + 1)]
    refine ⟨fun h j h1 h2 => ?_, fun h => ⟨h k (Nat.le_refl k) (by omega), fun j h1 h2 => h j (by omega) (by omega)⟩⟩
    by_cases q : j = k
    · rw [q]; exact h.1
    · exact h.2 j (by omega) (by omega)
theorem pk_cong {a b : Nat} : ∀ {n : Nat}, (∀ j, j < n → dn d (a + j) = dn d (b + j)) → pkN d a n = pkN d b n
  | 0, _ => rfl
  | n + 1, h => by
    unfold pkN
    rw [pk_cong (n := n) (fun j hj => h j (by omega)), h n (by omega)]
theorem k_same {a la b lb : Nat} (wa : wrd d a la) (wb : wrd d b lb) : lN (pkN d a la) = lN (pkN d b lb) ↔ smw d a la b lb = true := by
  have ha := pkN_40 wa
  have hb := pkN_40 wb
  rw [pk_lEQ (by omega) (by omega)]
  unfold smw
  rw [Bool.and_eq_true, decide_eq_true_eq, smF_iff]
  refine ⟨fun h => ?_, fun h => ?_⟩
  · obtain ⟨e1, e2⟩ := pk_inj wa wb h
    exact ⟨e1, fun j _ h2 => e2 j (by omega)⟩
  · obtain ⟨rfl, e2⟩ := h
    exact pk_cong (fun j hj => e2 j (by omega) (by omega))
/-- the class' groups say the same as the model's -/
def RG (I : MI) (b : Nat) (d : Nat → Int32) : Prop := ∀ x y, x < 26 → y < 26 → (I b 4 (x + 1) = I b 4 (y + 1) ↔ alk d x y = true)
theorem k_rhymeL {b : Nat} {K : Int32 → MI → MJ → Prop} (G : RG I b d) (a la c lc : Nat) (wa : wrd d a la) (wc : wrd d c lc) :
    ∀ (f k : Nat) (x : Int32) (u v : Int64), k + f = min la lc → x = nI k → u = lN (pkN d a (la - k)) → v = lN (pkN d c (lc - k)) → K (nI (rhF d a la c lc f k)) I J → f_X4_rhymeOf_L9 b K (f + 1) u v x I J := by
  have hla := wa.1
  have hlc := wc.1
  intro f
  induction f with
  | zero =>
    intro k x u v hk ex eu ev h
    show f_X4_rhymeOf_B9 b K _ u v x I J
    rw [ex]
    by_cases q8 : 8 ≤ k
    · exact q_t (nI_le q8 (by omega)) h
    · refine q_f (nI_ge (a := k) (b := 8) (by omega) (by decide)) ?_
      by_cases q : la = k
      · refine q_t ?_ h
        rw [eu, show la - k = 0 by omega]
        exact and0
      · refine ⟨fun _ => h, fun _ => q_t ?_ h⟩
        rw [ev, show lc - k = 0 by omega]
        exact and0
  | succ f ih =>
    intro k x u v hk ex eu ev h
    show f_X4_rhymeOf_B9 b K (f_X4_rhymeOf_L9 b K (f + 1)) u v x I J
    obtain ⟨i, hi⟩ : ∃ i, la - k = i + 1 := ⟨la - k - 1, by omega⟩
    obtain ⟨j, hj⟩ : ∃ j, lc - k = j + 1 := ⟨lc - k - 1, by omega⟩
    have ea : a + la - 1 - k = a + i := by omega
    have ec : c + lc - 1 - k = c + j := by omega
    have w1 : wrd d a (i + 1) := wrd_pre wa (by omega)
    have w2 : wrd d c (j + 1) := wrd_pre wc (by omega)
    have b1 := (w1.2.2 i (by omega)).2
    have b2 := (w2.2.2 j (by omega)).2
    rw [hi] at eu
    rw [hj] at ev
    have n1 : u &&& (31 : Int64) = lN (dn d (a + i) + 1) := by rw [eu]; exact pk_and31 w1
    have n2 : v &&& (31 : Int64) = lN (dn d (c + j) + 1) := by rw [ev]; exact pk_and31 w2
    unfold rhF at h
    rw [ea, ec] at h
    unfold f_X4_rhymeOf_B9
    rw [n1, n2, lN_i, lN_i, nI_clamp (by omega), nI_clamp (by omega)]
    refine q_f (by rw [ex]; exact nI_ge (a := k) (b := 8) (by omega) (by decide)) (q_f (lN_ne0 (by omega) (by omega)) (q_f (lN_ne0 (by omega) (by omega)) ⟨vp_in_nI (by omega) (by decide), vp_in_nI (by omega) (by decide), ?_⟩))
    have g := G _ _ b1 b2
    by_cases hc : alk d (dn d (a + i)) (dn d (c + j)) = true
    · rw [if_pos hc] at h
      refine q_t (g.mpr hc) (fun x2 e2 u2 eu2 v2 ev2 => ih (k + 1) x2 u2 v2 (by omega) (by rw [e2, ex]; exact nI_1 k) ?_ ?_ h)
      · rw [eu2, eu, pk_shr5 w1, show la - (k + 1) = i by omega]
      · rw [ev2, ev, pk_shr5 w2, show lc - (k + 1) = j by omega]
    · rw [if_neg hc] at h
      exact q_f (fun q => hc (g.mp q)) (by rw [ex]; exact h)
theorem k_rhymeOf {b : Nat} {Q : Int32 → MI → MJ → Prop} {x y : Int64} (G : RG I b d) (a la c lc : Nat) (wa : wrd d a la) (wc : wrd d c lc) (ex : x = lN (pkN d a la)) (ey : y = lN (pkN d c lc)) (h : Q (nI (rh d a la c lc)) I J) : f_X4_rhymeOf b x y I J Q :=
  ⟨min la lc + 1, k_rhymeL G a la c lc wa wc (min la lc) 0 0 x y (Nat.zero_add _) rfl ex ey h⟩
end CW
