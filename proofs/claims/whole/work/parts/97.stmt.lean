/-! STATEMENTS -/
abbrev S6 : Type := Nat × SD × List TK × Nat × Bool × Nat
def spBody (tx : Nat → Nat) (n j k : Nat) (d : SD) (L : List TK) (sn : Nat) (hd : Bool) (g : Nat) : Except ERR S6 :=
  if runIs tx n 1 j k = true then (if hd = true then .error (-2, j) else exB (spVal tx n 0 2 4 1 j k d sn) (fun q => .ok (q.1, q.2.1, L, q.2.2, hd, g)))
  else if runIs tx n 2 j k = true then exB (spVal tx n 1 1 4 2 j k d sn) (fun q => .ok (q.1, q.2.1, L, q.2.2, hd, g))
  else if runIs tx n 3 j k = true then exB (spVal tx n 2 0 9 3 j k d sn) (fun q => .ok (q.1, q.2.1, L, q.2.2, hd, g))
  else if runIs tx n 4 j k = true then exB (spVal tx n 3 0 99 4 j k d sn) (fun q => .ok (q.1, q.2.1, L, q.2.2, hd, g))
  else if runIs tx n 5 j k = true then exB (spAlike tx n k d g) (fun q => .ok (q.1, q.2, L, sn, hd, g + 1))
  else if runIs tx n 6 j k = true then exB (spHand tx n k d) (fun q => .ok (q.1, q.2, L, sn, true, g))
  else if runIs tx n 7 j k = true then (if sn.testBit 4 = true then .error (-2, j) else exB (spSum tx n 4 k (upd d 8 1) []) (fun s => .ok (s.1, s.2.1, s.2.2, sn + 16, hd, g)))
  else .error (-2, j)
def spStmt (tx : Nat → Nat) (n : Nat) (st : S6) : Except ERR S6 :=
  exB (spRun tx n st.1) (fun k => exB (spBody tx n (skp tx n st.1) k st.2.1 st.2.2.1 st.2.2.2.1 st.2.2.2.2.1 st.2.2.2.2.2) (fun s => exB (spSign tx n 59 s.1) (fun e => .ok (e, s.2))))
/-- the rank, told or not -/
def RT (d : SD) (L : List TK) (sn : Nat) : Prop := (sn.testBit 4 = false → dn d 8 = 0 ∧ dn d 9 = 0 ∧ L = [(1, 0)]) ∧ (sn.testBit 4 = true → dn d 8 = 1 ∧ RKd d L ∧ tkD L 0 = some 1 ∧ L.length ≤ 600)
/-- what holds between statements -/
def IS (n : Nat) (st : S6) : Prop := (4 ≤ st.1 ∧ st.1 ≤ n ∧ n ≤ 600) ∧ DW st.2.1 ∧ 1 ≤ dn st.2.1 0 ∧ RT st.2.1 st.2.2.1 st.2.2.2.1 ∧ st.2.2.2.1 < 32 ∧ st.2.2.2.2.2 ≤ st.1
theorem bit_tell : ∀ s, s < 32 → ∀ k, k < 5 → (s.testBit k = true ∨ (s + 2 ^ k < 32 ∧ (k ≠ 4 → (s + 2 ^ k).testBit 4 = s.testBit 4) ∧ (k = 4 → (s + 2 ^ k).testBit 4 = true))) := by decide +kernel
theorem RT_low {d d' : SD} {L : List TK} {sn sn' : Nat} (R : RT d L sn) (h : sn'.testBit 4 = sn.testBit 4) (e8 : dn d' 8 = dn d 8) (e9 : dn d' 9 = dn d 9) (ec : ∀ q, dn d' (602 + q) = dn d (602 + q)) : RT d' L sn' := by
  unfold RT RKd at R ⊢
  rw [h, e8, e9]
  refine ⟨R.1, fun z => ?_⟩
  have w := R.2 z
  exact ⟨w.1, ⟨w.2.1.1, fun q hq => by rw [ec]; exact w.2.1.2 q hq⟩, w.2.2⟩
section SB
variable {tx : Nat → Nat} {n : Nat}
theorem val_ok {bit lo hi c j k k' sn sn' : Nat} {d d' : SD} {L : List TK} (hk : k ≤ n) (hb : bit < 4) (hc : 1 ≤ c ∧ c ≤ 4) (hs : sn < 32) (D : DW d) (R : RT d L sn) (h1 : 1 ≤ dn d 0) (hv : (c = 1 → 2 ≤ lo ∧ hi ≤ 4) ∧ (c = 2 → 1 ≤ lo ∧ hi ≤ 4) ∧ (c = 3 → hi ≤ 9) ∧ (c = 4 → hi ≤ 99)) (e : spVal tx n bit lo hi c j k d sn = .ok (k', d', sn')) : (k < k' ∧ k' ≤ n) ∧ DW d' ∧ RT d' L sn' ∧ sn' < 32 ∧ 1 ≤ dn d' 0 := by
  unfold spVal at e
  split at e
  · cases e
  · next z =>
    cases hn : spNum tx n lo hi k with
    | error er => rw [hn] at e; cases e
    | ok q =>
      obtain ⟨k1, v⟩ := q
      rw [hn, exB_ok] at e
      cases e
      have no := num_ok hk hn
      have bt' := (bit_tell sn hs bit (by omega)).resolve_left z
      refine ⟨no.1, DW_val D hc ⟨fun h => by have := hv.1 h; omega, fun h => by have := hv.2.1 h; omega, fun h => by have := hv.2.2.1 h; omega, fun h => by have := hv.2.2.2 h; omega⟩, RT_low R (bt'.2.1 (by omega)) (dn_ot d _ (by omega)) (dn_ot d _ (by omega)) (fun q => dn_ot d _ (by omega)), bt'.1, by rw [dn_ot d _ (show (0 : Nat) ≠ c by omega)]; exact h1⟩
theorem alL_hi {g' : Nat} {c : Nat} (hc : c < 10 ∨ 36 ≤ c) : ∀ (f q : Nat) (d d' : SD), (∀ r, q ≤ r → r < q + f → isL (tx r) = true) → spAlL tx g' f q d = .ok d' → dn d' c = dn d c
  | 0, _, _, _, _, e => by cases e; rfl
  | f + 1, q, d, d', hl, e => by
    unfold spAlL at e
    have l := isL_t (hl q (Nat.le_refl _) (by omega))
    split at e
    · rw [alL_hi hc f (q + 1) _ d' (fun r a b => hl r (by omega) (by omega)) e, dn_ot d _ (by omega)]
    · cases e
theorem alike_ok {k k' g : Nat} {d d' : SD} (hk : k ≤ n) (n6 : n ≤ 600) (hg : g ≤ 600) (D : DW d) (e : spAlike tx n k d g = .ok (k', d')) : (k < k' ∧ k' ≤ n) ∧ DW d' ∧ ∀ c, (c < 10 ∨ 36 ≤ c) → dn d' c = dn d c := by
  unfold spAlike at e
  cases hr : spRun tx n k with
  | error er => rw [hr] at e; cases e
  | ok k1 =>
    rw [hr, exB_ok] at e
    have ro := run_ok hk hr
    obtain ⟨-, lets, -⟩ := run_lets hk hr
    cases ha : spAlL tx (g + 1) (k1 - skp tx n k) (skp tx n k) d with
    | error er => rw [ha] at e; cases e
    | ok d1 =>
      rw [ha, exB_ok] at e
      cases e
      have hl : ∀ r, skp tx n k ≤ r → r < skp tx n k + (k' - skp tx n k) → isL (tx r) = true := fun r a b => lets r a (by omega)
      exact ⟨⟨ro.1, ro.2.1⟩, spAlL_ok (g' := g + 1) _ _ _ D (by omega) hl _ ha, fun c hc => alL_hi hc _ _ _ _ hl ha⟩
theorem hand_hi {p : Nat} (hp : p < 4) {c : Nat} (hc : c < 306 ∨ 602 ≤ c) : ∀ (f i : Nat) (d d' : SD) (k : Nat), i ≤ n → DW d → spHandL tx n p f i d = .ok (k, d') → (i ≤ k ∧ k ≤ n) ∧ DW d' ∧ dn d' c = dn d c
  | 0, i, d, d', k, hi, D, e => by cases e; exact ⟨⟨Nat.le_refl _, hi⟩, D, rfl⟩
  | f + 1, i, d, d', k, hi, D, e => by
    have e' : exB (spTxt tx n p i d) (fun q => if isL (bt tx n (skp tx n q.1)) = true then spHandL tx n p f (skp tx n q.1) q.2 else .ok (skp tx n q.1, q.2)) = .ok (k, d') := e
    cases ht : spTxt tx n p i d with
    | error er => rw [ht] at e'; cases e'
    | ok q =>
      obtain ⟨k1, d1⟩ := q
      rw [ht, exB_ok] at e'
      unfold spTxt at ht
      cases hr : spRun tx n i with
      | error er => rw [hr] at ht; cases ht
      | ok k2 =>
        rw [hr, exB_ok] at ht
        have ro := run_ok hi hr
        obtain ⟨-, lets, -⟩ := run_lets hi hr
        split at ht
        · cases ht
        · next h8 =>
          split at ht
          · cases ht
          · next hm =>
            cases ht
            have dp := (D.2.2.2 p hp).2.1
            have D1 := DW_add (tx := tx) (j := skp tx n i) (n := k1 - skp tx n i) D hp (by omega) (by omega) (fun q hq => lets _ (by omega) (by omega))
            have c1 : dn (addW tx d p (skp tx n i) (k1 - skp tx n i)) c = dn d c := aw_farn (show c ≠ 306 + 74 * p + 1 by omega) (show c < 306 + 74 * p + 2 + 9 * mMany d p ∨ 306 + 74 * p + 2 + 9 * mMany d p + 1 + (k1 - skp tx n i) ≤ c by omega)
            have z := skp_ok (tx := tx) (n := n) ro.2.1
            split at e'
            · have g := hand_hi hp hc f _ _ _ _ z.1.2 D1 e'
              exact ⟨⟨by omega, g.1.2⟩, g.2.1, g.2.2.trans c1⟩
            · cases e'
              exact ⟨⟨by show i ≤ skp tx n k1; omega, z.1.2⟩, D1, c1⟩
theorem hand_ok {k k' : Nat} {d d' : SD} (hk : k ≤ n) (D : DW d) (e : spHand tx n k d = .ok (k', d')) : (k < k' ∧ k' ≤ n) ∧ DW d' ∧ ∀ c, (c < 306 ∨ 602 ≤ c) → dn d' c = dn d c := by
  unfold spHand at e
  cases hn : spNum tx n 0 (dn d 1 - 1) k with
  | error er => rw [hn] at e; cases e
  | ok q =>
    obtain ⟨k1, p⟩ := q
    rw [hn, exB_ok] at e
    have no := num_ok hk hn
    have d1 := D.2.1.2.1
    have hp : p < 4 := by have := no.2.2; omega
    have g0 := hand_hi hp (c := 0) (Or.inl (by decide)) 9 k1 d d' k' no.1.2 D e
    exact ⟨⟨by omega, g0.1.2⟩, g0.2.1, fun c hc => (hand_hi hp hc 9 k1 d d' k' no.1.2 D e).2.2⟩
theorem TI_start {k : Nat} {d : SD} (D : DW d) (h9 : dn d 9 = 0) (h4 : 4 ≤ k) (hk : k ≤ n) (n6 : n ≤ 600) : TI n 0 k (upd d 8 1) [] 0 :=
  ⟨rfl, h4, hk, n6, DW_low D (v := 1) (by decide) (by decide), by rw [dn_ot d _ (by decide)]; exact h9, fun q hq => absurd hq (Nat.not_lt_zero q)⟩
theorem body_ok {j k sn g : Nat} {d : SD} {L : List TK} {hd : Bool} {st : S6} (h4 : 4 ≤ k) (hk : k ≤ n) (n6 : n ≤ 600) (D : DW d) (h1 : 1 ≤ dn d 0) (R : RT d L sn) (hs : sn < 32) (hg : g ≤ k) (e : spBody tx n j k d L sn hd g = .ok st) : k < st.1 ∧ IS n st := by
  have val : ∀ {bit lo hi c : Nat}, bit < 4 → (1 ≤ c ∧ c ≤ 4) → ((c = 1 → 2 ≤ lo ∧ hi ≤ 4) ∧ (c = 2 → 1 ≤ lo ∧ hi ≤ 4) ∧ (c = 3 → hi ≤ 9) ∧ (c = 4 → hi ≤ 99)) → exB (spVal tx n bit lo hi c j k d sn) (fun q => (.ok (q.1, q.2.1, L, q.2.2, hd, g) : Except ERR S6)) = .ok st → k < st.1 ∧ IS n st := by
    intro bit lo hi c hb hc hv ev
    cases hq : spVal tx n bit lo hi c j k d sn with
    | error er => rw [hq] at ev; cases ev
    | ok q =>
      obtain ⟨k', d', sn'⟩ := q
      rw [hq, exB_ok] at ev
      cases ev
      have o := val_ok hk hb hc hs D R h1 hv hq
      exact ⟨o.1.1, ⟨by show 4 ≤ k'; omega, o.1.2, n6⟩, o.2.1, o.2.2.2.2, o.2.2.1, o.2.2.2.1, by show g ≤ k'; omega⟩
  unfold spBody at e
  split at e
  · split at e
    · cases e
    · exact val (by decide) (by decide) ⟨fun _ => by decide, fun h => by omega, fun h => by omega, fun h => by omega⟩ e
  · split at e
    · exact val (by decide) (by decide) ⟨fun h => by omega, fun _ => by decide, fun h => by omega, fun h => by omega⟩ e
    · split at e
      · exact val (by decide) (by decide) ⟨fun h => by omega, fun h => by omega, fun _ => by decide, fun h => by omega⟩ e
      · split at e
        · exact val (by decide) (by decide) ⟨fun h => by omega, fun h => by omega, fun h => by omega, fun _ => by decide⟩ e
        · split at e
          · cases hq : spAlike tx n k d g with
            | error er => rw [hq] at e; cases e
            | ok q =>
              obtain ⟨k', d'⟩ := q
              rw [hq, exB_ok] at e
              cases e
              have o := alike_ok hk n6 (by omega) D hq
              exact ⟨o.1.1, ⟨by show 4 ≤ k'; omega, o.1.2, n6⟩, o.2.1, by show 1 ≤ dn d' 0; rw [o.2.2 0 (Or.inl (by decide))]; exact h1, RT_low R rfl (o.2.2 8 (Or.inl (by decide))) (o.2.2 9 (Or.inl (by decide))) (fun q => o.2.2 (602 + q) (Or.inr (by omega))), hs, by show g + 1 ≤ k'; omega⟩
          · split at e
            · cases hq : spHand tx n k d with
              | error er => rw [hq] at e; cases e
              | ok q =>
                obtain ⟨k', d'⟩ := q
                rw [hq, exB_ok] at e
                cases e
                have o := hand_ok hk D hq
                exact ⟨o.1.1, ⟨by show 4 ≤ k'; omega, o.1.2, n6⟩, o.2.1, by show 1 ≤ dn d' 0; rw [o.2.2 0 (Or.inl (by decide))]; exact h1, RT_low R rfl (o.2.2 8 (Or.inl (by decide))) (o.2.2 9 (Or.inl (by decide))) (fun q => o.2.2 (602 + q) (Or.inr (by omega))), hs, by show g ≤ k'; omega⟩
            · split at e
              · split at e
                · cases e
                · next z =>
                  cases hq : spSum tx n 4 k (upd d 8 1) [] with
                  | error er => rw [hq] at e; cases e
                  | ok s =>
                    rw [hq, exB_ok] at e
                    cases e
                    have R0 := R.1 (Bool.eq_false_iff.mpr z)
                    have O := spSum_ok 4 (by decide) k _ _ 0 (by decide) (TI_start D R0.2.1 h4 hk n6) s hq
                    have bt' := (bit_tell sn hs 4 (by decide)).resolve_left z
                    obtain ⟨⟨t1, t2, t3, t4, t5, t6⟩, o2, o3, o4⟩ := O
                    have d8 : dn s.2.1 8 = 1 := by unfold dn; rw [o4 8 (by decide) (by decide), upd_at]; rfl
                    have d0 : dn s.2.1 0 = dn d 0 := by unfold dn; rw [o4 0 (by decide) (by decide), upd_ot _ _ (by decide)]
                    refine ⟨o2, ⟨by show 4 ≤ s.1; omega, t3, n6⟩, t5, by show 1 ≤ dn s.2.1 0; rw [d0]; exact h1, ⟨fun w => ?_, fun _ => ⟨d8, t6, t1, by show s.2.2.length ≤ 600; omega⟩⟩, bt'.1, by show g ≤ s.1; omega⟩
                    have := bt'.2.2 rfl
                    have w2 : (sn + 2 ^ 4).testBit 4 = false := w
                    rw [this] at w2
                    cases w2
              · cases e
theorem stmt_ok {st st' : S6} (H : IS n st) (e : spStmt tx n st = .ok st') : st.1 + 1 < st'.1 ∧ IS n st' := by
  obtain ⟨⟨h4, hi, n6⟩, D, h1, R, hs, hg⟩ := H
  unfold spStmt at e
  cases hr : spRun tx n st.1 with
  | error er => rw [hr] at e; cases e
  | ok k =>
    rw [hr, exB_ok] at e
    have ro := run_ok hi hr
    cases hb : spBody tx n (skp tx n st.1) k st.2.1 st.2.2.1 st.2.2.2.1 st.2.2.2.2.1 st.2.2.2.2.2 with
    | error er => rw [hb] at e; cases e
    | ok s =>
      rw [hb, exB_ok] at e
      have bo' := body_ok (by omega) ro.2.1 n6 D h1 R hs (by omega) hb
      cases hg : spSign tx n 59 s.1 with
      | error er => rw [hg] at e; cases e
      | ok j =>
        rw [hg, exB_ok] at e
        cases e
        obtain ⟨b1, ⟨c1, c2, c3⟩, b2⟩ := bo'
        have sg := sign_ok (by decide) c2 hg
        exact ⟨by show st.1 + 1 < j; omega, ⟨by show 4 ≤ j; omega, sg.2, n6⟩, b2.1, b2.2.1, b2.2.2.1, b2.2.2.2.1, by have := b2.2.2.2.2; show s.2.2.2.2.2 ≤ j; omega⟩
end SB
