/-! A RANK'S EXPRESSION: what is kept while it is read -/
theorem num_ok {tx : Nat → Nat} {n lo hi i k v : Nat} (hi' : i ≤ n) (e : spNum tx n lo hi i = .ok (k, v)) : (i < k ∧ k ≤ n) ∧ lo ≤ v ∧ v ≤ hi := by
  have z := skp_ok (tx := tx) (n := n) hi'
  have r := dend_ok (tx := tx) (n := n) z.1.2
  unfold spNum at e
  split at e
  · next y =>
    split at e
    · next w =>
      cases e
      refine ⟨⟨?_, r.1.2⟩, w⟩
      rcases Nat.lt_or_ge (skp tx n i) (dend tx n (skp tx n i)) with q | q
      · omega
      · have e2 := r.2.1
        rw [show dend tx n (skp tx n i) = skp tx n i from Nat.le_antisymm q r.1.1, y] at e2
        cases e2
    · cases e
  · cases e
theorem run_ok {tx : Nat → Nat} {n i k : Nat} (hi : i ≤ n) (e : spRun tx n i = .ok k) : i < k ∧ k ≤ n ∧ skp tx n i < k := by
  have z := skp_ok (tx := tx) (n := n) hi
  have r := rend_ok (tx := tx) (n := n) z.1.2
  unfold spRun at e
  split at e
  · next y =>
    cases e
    have gt : skp tx n i < rend tx n (skp tx n i) := by
      rcases Nat.lt_or_ge (skp tx n i) (rend tx n (skp tx n i)) with q | q
      · exact q
      · have e2 := r.2.1
        rw [show rend tx n (skp tx n i) = skp tx n i from Nat.le_antisymm q r.1.1, y] at e2
        cases e2
    exact ⟨by omega, r.1.2, gt⟩
  · cases e
theorem bt_lt {tx : Nat → Nat} {n i c : Nat} (hc : c < 256) (e : bt tx n i = c) : i < n := by
  rcases Nat.lt_or_ge i n with q | q
  · exact q
  · rw [bt_end q] at e; omega
theorem sign_ok {tx : Nat → Nat} {n s i j : Nat} (hs : s < 256) (hi : i ≤ n) (e : spSign tx n s i = .ok j) : i < j ∧ j ≤ n := by
  have z := skp_ok (tx := tx) (n := n) hi
  unfold spSign at e
  split at e
  · next y =>
    cases e
    have := bt_lt hs y
    omega
  · cases e
theorem fact_lt {tx : Nat → Nat} {n j k f : Nat} (e : factOf tx n j k = some f) : f ≤ 5 := by
  unfold factOf at e
  repeat' split at e
  all_goals first | (cases e; decide) | cases e
def pe (t : Nat) : Nat := if t = 0 then 0 else 1
def okO (t : Nat) : Prop := t = 0 ∨ (2 ≤ t ∧ t ≤ 5)
theorem TI_len {n u i j k : Nat} {d : SD} {L : List TK} (T : TI n u i d L k) (w : Nat) (h : L.length + w + 4 ≤ j) (hj : j ≤ n) : TI n w j d L k := by
  obtain ⟨t1, t2, t3, t4, t5, t6⟩ := T
  exact ⟨t1, h, hj, t4, t5, t6⟩
theorem TI_p {n w i m t : Nat} {d : SD} {L : List TK} (ht : okO t) (T : TI n (pe t + w) i d L (m + pe t)) (hm : 1 ≤ m) : TI n w i (pD t d) (pL t L) m ∧ eqc d (pD t d) ∧ (pL t L).length = L.length + pe t := by
  unfold pD pL
  by_cases z : t = 0
  · subst z
    rw [if_pos rfl, if_pos rfl]
    exact ⟨TI_to T (by show w + i ≤ 0 + w + i; omega) T.2.2.1, eqc.rfl, rfl⟩
  · have p1 : pe t = 1 := if_neg z
    rw [p1] at T ⊢
    rw [if_neg z, if_neg z]
    have t25 := ht.resolve_left z
    have q := TI_push (x := (t, 0)) (u := w) (TI_to T (show w + 1 + i ≤ 1 + w + i by omega) T.2.2.1) (Or.inr (Or.inr ⟨t25.1, t25.2, by omega⟩))
    have e : afT (t, 0) (m + 1) = m := by
      unfold afT
      rw [if_neg (by show ¬ t ≤ 1; omega)]
      rfl
    rw [e] at q
    exact ⟨q.1, q.2, by rw [List.length_append]; rfl⟩
/-- what reading from i to s keeps -/
def TO (n u i : Nat) (d : SD) (L : List TK) (k : Nat) (s : SS) : Prop := TI n u s.1 s.2.1 s.2.2 (k + 1) ∧ i < s.1 ∧ s.2.2.length + i ≤ L.length + s.1 ∧ eqc d s.2.1
section SO
variable {tx : Nat → Nat} {n : Nat}
theorem spFac_ok {D : Nat} {rs : Nat → SD → List TK → Except ERR SS} (hD : D ≤ 4) (hrs : 1 ≤ D → ∀ i d L k, k ≤ 2 * (5 - D) → TI n 0 i d L k → ∀ s, rs i d L = .ok s → TO n 0 i d L k s) {u i k : Nat} {d : SD} {L : List TK} (hk : k ≤ 2 * (4 - D) + 2) (T : TI n u i d L k) {s : SS} (e : spFac tx n D rs i d L = .ok s) : TO n u i d L k s := by
  have hi := T.2.2.1
  have z := skp_ok (tx := tx) (n := n) hi
  unfold spFac at e
  split at e
  · next c =>
    split at e
    · cases e
    · next d0 =>
      have lt := bt_lt (by decide) c
      have T0 : TI n 0 (skp tx n i + 1) d L k := TI_len T 0 (by have := T.2.1; omega) (by omega)
      cases hr : rs (skp tx n i + 1) d L with
      | error er => rw [hr] at e; cases e
      | ok s1 =>
        rw [hr, exB_ok] at e
        have O1 := hrs (by omega) _ d L k (by omega) T0 s1 hr
        cases hg : spSign tx n 41 s1.1 with
        | error er => rw [hg] at e; cases e
        | ok j =>
          rw [hg, exB_ok] at e
          cases e
          have sg := sign_ok (by decide) O1.1.2.2.1 hg
          have l0 := T.2.1
          have l1 := O1.2.2.1
          have l2 := O1.2.1
          exact ⟨TI_len O1.1 u (by show s1.2.2.length + u + 4 ≤ j; omega) sg.2, by show i < j; omega, by show s1.2.2.length + i ≤ L.length + j; omega, O1.2.2.2⟩
  · split at e
    · cases hn : spNum tx n 0 9999 i with
      | error er => rw [hn] at e; cases e
      | ok q =>
        obtain ⟨k', v⟩ := q
        rw [hn, exB_ok] at e
        cases e
        have no := num_ok hi hn
        have P := TI_push (x := (0, v)) (u := u) (TI_to T (show u + 1 + i ≤ u + k' by omega) no.1.2) (Or.inl ⟨rfl, no.2.2, by omega⟩)
        refine ⟨P.1, no.1.1, ?_, P.2⟩
        show (L ++ [(0, v)]).length + i ≤ L.length + k'
        rw [List.length_append]
        show L.length + 1 + i ≤ _
        omega
    · cases hr : spRun tx n i with
      | error er => rw [hr] at e; cases e
      | ok k' =>
        rw [hr, exB_ok] at e
        have ro := run_ok hi hr
        unfold spFact at e
        split at e
        · next f hf =>
          cases e
          have P := TI_push (x := (1, f)) (u := u) (TI_to T (show u + 1 + i ≤ u + k' by omega) ro.2.1) (Or.inr (Or.inl ⟨rfl, fact_lt hf, by omega⟩))
          refine ⟨P.1, ro.1, ?_, P.2⟩
          show (L ++ [(1, f)]).length + i ≤ L.length + k'
          rw [List.length_append]
          show L.length + 1 + i ≤ _
          omega
        · cases e
/-- behind a factor: the operators that wait for it -/
theorem aft_ok {t s k0 u0 i : Nat} {d : SD} {L : List TK} {q : SS} (ht : okO t) (hs : okO s) (O : TO n (pe t + pe s) i d L (k0 + pe t + pe s) q) : TI n (pe s) q.1 (pD t q.2.1) (pL t q.2.2) (k0 + 1 + pe s) ∧ TI n 0 q.1 (pD s (pD t q.2.1)) (pL s (pL t q.2.2)) (k0 + 1) ∧ eqc d (pD t q.2.1) ∧ eqc d (pD s (pD t q.2.1)) ∧ (pL t q.2.2).length = q.2.2.length + pe t ∧ (pL s (pL t q.2.2)).length = q.2.2.length + pe t + pe s := by
  obtain ⟨T, -, -, c⟩ := O
  have a := TI_p (w := pe s) (m := k0 + 1 + pe s) ht (by rw [show k0 + 1 + pe s + pe t = k0 + pe t + pe s + 1 by omega]; exact T) (by omega)
  have b := TI_p (w := 0) (m := k0 + 1) hs (TI_to a.1 (by omega) a.1.2.2.1) (by omega)
  exact ⟨a.1, b.1, c.trans a.2.1, (c.trans a.2.1).trans b.2.1, a.2.2, by rw [b.2.2, a.2.2]⟩
theorem spA_ok {D : Nat} {rs : Nat → SD → List TK → Except ERR SS} (hD : D ≤ 4) (hrs : 1 ≤ D → ∀ i d L k, k ≤ 2 * (5 - D) → TI n 0 i d L k → ∀ s, rs i d L = .ok s → TO n 0 i d L k s) :
    ∀ (f t s i k0 : Nat) (d : SD) (L : List TK), n - i < f → okO t → okO s → k0 ≤ 2 * (4 - D) → TI n (pe t + pe s) i d L (k0 + pe t + pe s) → ∀ r, spA tx n D rs f t s i d L = .ok r → TI n 0 r.1 r.2.1 r.2.2 (k0 + 1) ∧ i < r.1 ∧ r.2.2.length + i ≤ L.length + pe t + pe s + r.1 ∧ eqc d r.2.1 := by
  intro f
  induction f with
  | zero => intro t s i k0 d L h; omega
  | succ f ih =>
    intro t s i k0 d L hf ht hs hk T r e
    have pt : pe t ≤ 1 := by unfold pe; split <;> omega
    have ps : pe s ≤ 1 := by unfold pe; split <;> omega
    have e' : exB (spFac tx n D rs i d L) (fun q =>
      if bt tx n (skp tx n q.1) = 42 then spA tx n D rs f 4 s (skp tx n q.1 + 1) (pD t q.2.1) (pL t q.2.2)
      else if bt tx n (skp tx n q.1) = 47 then spA tx n D rs f 5 s (skp tx n q.1 + 1) (pD t q.2.1) (pL t q.2.2)
      else if bt tx n (skp tx n q.1) = 43 then spA tx n D rs f 0 2 (skp tx n q.1 + 1) (pD s (pD t q.2.1)) (pL s (pL t q.2.2))
      else if bt tx n (skp tx n q.1) = 45 then spA tx n D rs f 0 3 (skp tx n q.1 + 1) (pD s (pD t q.2.1)) (pL s (pL t q.2.2))
      else .ok (skp tx n q.1, pD s (pD t q.2.1), pL s (pL t q.2.2))) = .ok r := e
    cases hq : spFac tx n D rs i d L with
    | error er => rw [hq] at e'; cases e'
    | ok q =>
      rw [hq, exB_ok] at e'
      have O := spFac_ok hD hrs (by omega) T hq
      obtain ⟨a1, a2, a3, a4, a5, a6⟩ := aft_ok (u0 := 0) ht hs O
      have z := skp_ok (tx := tx) (n := n) a1.2.2.1
      have o2 := O.2.1
      have o3 := O.2.2.1
      have mul : ∀ o, okO o → pe o = 1 → bt tx n (skp tx n q.1) < 256 → spA tx n D rs f o s (skp tx n q.1 + 1) (pD t q.2.1) (pL t q.2.2) = .ok r → TI n 0 r.1 r.2.1 r.2.2 (k0 + 1) ∧ i < r.1 ∧ r.2.2.length + i ≤ L.length + pe t + pe s + r.1 ∧ eqc d r.2.1 := by
        intro o ho po hb er
        have lt := bt_lt hb rfl
        have g := ih o s (skp tx n q.1 + 1) k0 _ _ (by omega) ho hs hk (by rw [po, show k0 + 1 + pe s = k0 + 1 + pe s from rfl]; exact TI_to a1 (by omega) (by omega)) r er
        rw [po, a5] at g
        exact ⟨g.1, by omega, by omega, a3.trans g.2.2.2⟩
      have add : ∀ o, okO o → pe o = 1 → bt tx n (skp tx n q.1) < 256 → spA tx n D rs f 0 o (skp tx n q.1 + 1) (pD s (pD t q.2.1)) (pL s (pL t q.2.2)) = .ok r → TI n 0 r.1 r.2.1 r.2.2 (k0 + 1) ∧ i < r.1 ∧ r.2.2.length + i ≤ L.length + pe t + pe s + r.1 ∧ eqc d r.2.1 := by
        intro o ho po hb er
        have lt := bt_lt hb rfl
        have g := ih 0 o (skp tx n q.1 + 1) k0 _ _ (by omega) (Or.inl rfl) ho hk (by rw [po]; exact TI_to a2 (by show 0 + 1 + q.1 ≤ 0 + (skp tx n q.1 + 1); omega) (by omega)) r er
        have p0 : pe 0 = 0 := rfl
        rw [po, p0, a6] at g
        exact ⟨g.1, by omega, by omega, a4.trans g.2.2.2⟩
      split at e'
      · next c => exact mul 4 (Or.inr (by decide)) rfl (by omega) e'
      · split at e'
        · next c => exact mul 5 (Or.inr (by decide)) rfl (by omega) e'
        · split at e'
          · next c => exact add 2 (Or.inr (by decide)) rfl (by omega) e'
          · split at e'
            · next c => exact add 3 (Or.inr (by decide)) rfl (by omega) e'
            · cases e'
              refine ⟨TI_to a2 (by show 0 + q.1 ≤ 0 + skp tx n q.1; omega) z.1.2, by show i < skp tx n q.1; omega, ?_, a4⟩
              show (pL s (pL t q.2.2)).length + i ≤ _ + skp tx n q.1
              omega
theorem spSum_ok : ∀ (D : Nat), D ≤ 4 → ∀ i d L k, k ≤ 2 * (4 - D) → TI n 0 i d L k → ∀ s, spSum tx n D i d L = .ok s → TO n 0 i d L k s
  | 0, hD, i, d, L, k, hk, T, s, e => by
    have n6 := T.2.2.2.1
    have g := spA_ok (rs := fun _ _ _ => .error (-6, 0)) hD (fun h => absurd h (by omega)) 601 0 0 i k d L (by omega) (Or.inl rfl) (Or.inl rfl) hk T s e
    exact ⟨g.1, g.2.1, g.2.2.1, g.2.2.2⟩
  | D + 1, hD, i, d, L, k, hk, T, s, e => by
    have n6 := T.2.2.2.1
    have g := spA_ok (rs := spSum tx n D) hD (fun _ i d L k hk T s e => spSum_ok D (by omega) i d L k (by omega) T s e) 601 0 0 i k d L (by omega) (Or.inl rfl) (Or.inl rfl) hk T s e
    exact ⟨g.1, g.2.1, g.2.2.1, g.2.2.2⟩
end SO
