/-! A WHOLE SETUP TEXT -/
def spLoop (tx : Nat → Nat) (n : Nat) : Nat → S6 → Except ERR S6
  | 0, st => .ok st
  | f + 1, st => if bt tx n (skp tx n st.1) = 256 then .ok (skp tx n st.1, st.2) else exB (spStmt tx n st) (fun s => spLoop tx n f s)
def spLoad (tx : Nat → Nat) (n : Nat) (d : SD) : Except ERR S6 := exB (spRoof tx n 0 d) (fun q => spLoop tx n 601 (q.1, q.2, [(1, 0)], 0, false, 0))
def ini (i : Nat) : Int32 := if i = 1 then 2 else if i = 2 then 2 else if i = 3 then 1 else if i = 4 then 5 else 0
theorem ini_0 {i : Nat} (h : i = 0 ∨ 5 ≤ i) : ini i = 0 := by
  unfold ini
  rw [if_neg (by omega), if_neg (by omega), if_neg (by omega), if_neg (by omega)]
/-- the data that a text starts from -/
def d0 (X : SD) : SD := cpd ini X 1802
theorem d0_at (X : SD) {i : Nat} (h : i < 1802) : d0 X i = ini i := if_pos h
theorem d0_z (X : SD) {i : Nat} (h : i < 1802) (h2 : i = 0 ∨ 5 ≤ i) : d0 X i = 0 := by rw [d0_at X h, ini_0 h2]
theorem d0_zn (X : SD) {i : Nat} (h : i < 1802) (h2 : i = 0 ∨ 5 ≤ i) : dn (d0 X) i = 0 := by unfold dn; rw [d0_z X h h2]; rfl
theorem DW_d0 (X : SD) : DW (d0 X) := by
  have z : ∀ i, i < 1802 → (i = 0 ∨ 5 ≤ i) → d0 X i = 0 := fun i h h2 => d0_z X h h2
  have zn : ∀ i, i < 1802 → (i = 0 ∨ 5 ≤ i) → dn (d0 X) i = 0 := fun i h h2 => d0_zn X h h2
  have e1 : dn (d0 X) 1 = 2 := by unfold dn; rw [d0_at X (by decide)]; rfl
  have e2 : dn (d0 X) 2 = 2 := by unfold dn; rw [d0_at X (by decide)]; rfl
  have e3 : dn (d0 X) 3 = 1 := by unfold dn; rw [d0_at X (by decide)]; rfl
  have e4 : dn (d0 X) 4 = 5 := by unfold dn; rw [d0_at X (by decide)]; rfl
  refine ⟨fun i hi => ?_, ⟨by rw [zn 0 (by decide) (by decide)]; decide, by rw [e1]; decide, by rw [e2]; decide, by rw [e3]; decide, by rw [e4]; decide, z 5 (by decide) (by decide), z 6 (by decide) (by decide), z 7 (by decide) (by decide)⟩, fun r hr => ?_, fun p hp => ?_⟩
  · by_cases q : i = 0 ∨ 5 ≤ i
    · rw [zn i hi.1 q, z i hi.1 q]; exact ⟨rfl, by decide⟩
    · rcases (show i = 1 ∨ i = 2 ∨ i = 3 ∨ i = 4 by omega) with c | c | c | c
      · subst c; rw [e1, d0_at X (by decide)]; exact ⟨rfl, by decide⟩
      · subst c; rw [e2, d0_at X (by decide)]; exact ⟨rfl, by decide⟩
      · subst c; rw [e3, d0_at X (by decide)]; exact ⟨rfl, by decide⟩
      · subst c; rw [e4, d0_at X (by decide)]; exact ⟨rfl, by decide⟩
  · have c : ∀ k, k < 45 → d0 X (rA r + k) = 0 := fun k hk => z _ (lt_row hr hk) (Or.inr (show 5 ≤ 36 + 45 * r + k by omega))
    have t0 : mTil (d0 X) r = 0 := zn _ (lt_row hr (k := 0) (by decide)) (Or.inr (show 5 ≤ 36 + 45 * r by omega))
    refine ⟨by rw [t0]; decide, c 1 (by decide), c 2 (by decide), c 4 (by decide), Or.inr (c 3 (by decide)), fun h => ?_⟩
    rw [zn 0 (by decide) (by decide)] at h
    exact absurd h (Nat.not_lt_zero _)
  · have m0 : mMany (d0 X) p = 0 := zn _ (lt_pl hp (k := 1) (by decide)) (Or.inr (show 5 ≤ 306 + 74 * p + 1 by omega))
    refine ⟨z _ (lt_pl hp (k := 0) (by decide)) (Or.inr (show 5 ≤ 306 + 74 * p by omega)), by rw [m0]; decide, fun k hk => ?_⟩
    rw [m0] at hk
    omega
theorem RT_d0 (X : SD) : RT (d0 X) [(1, 0)] 0 := ⟨fun _ => ⟨d0_zn X (by decide) (by decide), d0_zn X (by decide) (by decide), rfl⟩, fun h => by rw [Nat.zero_testBit] at h; cases h⟩
/-- rows leave the rank's cells -/
theorem rows_hi {tx : Nat → Nat} {n c : Nat} (hc : (5 ≤ c ∧ c < 36) ∨ 602 ≤ c) : ∀ (f i : Nat) (d d' : SD) (k : Nat), dn d 0 ≤ 6 → spRows tx n f i d = .ok (k, d') → dn d' c = dn d c
  | 0, i, d, d', k, _, e => by cases e; rfl
  | f + 1, i, d, d', k, h6, e => by
    have e' : exB (spNum tx n 1 40 i) (fun q => if dn d 0 = 6 then .error (-5, skp tx n i) else if isD (bt tx n (skp tx n q.1)) = true then spRows tx n f (skp tx n q.1) (layR d q.2) else .ok (skp tx n q.1, layR d q.2)) = .ok (k, d') := e
    cases hn : spNum tx n 1 40 i with
    | error er => rw [hn] at e'; cases e'
    | ok q =>
      obtain ⟨k1, v⟩ := q
      rw [hn, exB_ok] at e'
      split at e'
      · cases e'
      · next h0 =>
        have c1 : dn (layR d v) c = dn d c := lr_farn (by omega) (show c ≠ 36 + 45 * dn d 0 by omega) (show c ≠ 36 + 45 * dn d 0 + 3 by omega)
        split at e'
        · exact (rows_hi hc f _ _ _ _ (by rw [lr_0n (by omega)]; omega) e').trans c1
        · cases e'; exact c1
theorem rows_pos {tx : Nat → Nat} {n : Nat} : ∀ (f i : Nat) (d d' : SD) (k : Nat), i ≤ n → spRows tx n f i d = .ok (k, d') → i ≤ k ∧ k ≤ n
  | 0, i, d, d', k, hi, e => by cases e; exact ⟨Nat.le_refl _, hi⟩
  | f + 1, i, d, d', k, hi, e => by
    have e' : exB (spNum tx n 1 40 i) (fun q => if dn d 0 = 6 then .error (-5, skp tx n i) else if isD (bt tx n (skp tx n q.1)) = true then spRows tx n f (skp tx n q.1) (layR d q.2) else .ok (skp tx n q.1, layR d q.2)) = .ok (k, d') := e
    cases hn : spNum tx n 1 40 i with
    | error er => rw [hn] at e'; cases e'
    | ok q =>
      obtain ⟨k1, v⟩ := q
      rw [hn, exB_ok] at e'
      have no := num_ok hi hn
      have z := skp_ok (tx := tx) (n := n) no.1.2
      split at e'
      · cases e'
      · split at e'
        · have g := rows_pos f _ _ _ _ z.1.2 e'
          exact ⟨by omega, g.2⟩
        · cases e'; exact ⟨by show i ≤ skp tx n k1; omega, z.1.2⟩
theorem roof_ok {tx : Nat → Nat} {n k : Nat} {d d' : SD} {L : List TK} (h6 : dn d 0 ≤ 6) (e : spRoof tx n 0 d = .ok (k, d')) : (4 ≤ k ∧ k ≤ n) ∧ (RT d L 0 → RT d' L 0) := by
  unfold spRoof at e
  cases hr : spRun tx n 0 with
  | error er => rw [hr] at e; cases e
  | ok k1 =>
    rw [hr, exB_ok] at e
    have ro := run_ok (Nat.zero_le n) hr
    split at e
    · next y =>
      have len : k1 - skp tx n 0 = 4 := by
        unfold runIs at y
        exact of_decide_eq_true (Bool.and_eq_true_iff.mp y).1
      cases hw : spRows tx n 7 k1 d with
      | error er => rw [hw] at e; cases e
      | ok q =>
        obtain ⟨k2, d2⟩ := q
        rw [hw, exB_ok] at e
        have rp := rows_pos 7 k1 d d2 k2 ro.2.1 hw
        cases hs : spSign tx n 59 k2 with
        | error er => rw [hs] at e; cases e
        | ok j =>
          rw [hs, exB_ok] at e
          cases e
          have sg := sign_ok (by decide) rp.2 hs
          exact ⟨⟨by omega, sg.2⟩, fun R => RT_low R rfl (rows_hi (Or.inl (by decide)) 7 k1 d d2 k2 h6 hw) (rows_hi (Or.inl (by decide)) 7 k1 d d2 k2 h6 hw) (fun q => rows_hi (Or.inr (by omega)) 7 k1 d d2 k2 h6 hw)⟩
    · cases e
/-- the game that was read -/
theorem read_fin {n : Nat} {st : S6} {I : MI} {J : MJ} (H : IS n st) (R : RR I J st.2.1 st.2.2.2.2.2) (G : gTok I 10 st.2.2.1) : WF st.2.1 ∧ LV st.2.1 ∧ RC I J 10 st.2.1 := by
  obtain ⟨-, D, h1, T, hs, -⟩ := H
  generalize st.2.1 = d at *
  generalize st.2.2.1 = L at *
  generalize st.2.2.2.1 = sn at *
  generalize st.2.2.2.2.2 = g at *
  obtain ⟨gd1, ⟨b0, b1, b2, b3, b4, z5, z6, z7⟩, Rw, P⟩ := D
  have n5 : dn d 5 = 0 := by unfold dn; rw [z5]; rfl
  have n6 : dn d 6 = 0 := by unfold dn; rw [z6]; rfl
  have n7 : dn d 7 = 0 := by unfold dn; rw [z7]; rfl
  have tk : tkD L 0 = some 1 ∧ L.length ≤ 600 ∧ (dn d 8 = 0 → L = [(1, 0)]) ∧ (dn d 8 ≠ 0 → RKd d L) ∧ dn d 8 ≤ 1 ∧ dn d 9 ≤ 1200 := by
    by_cases q : sn.testBit 4 = true
    · have w := T.2 q
      have m2 := tkM_le L
      have r1 := w.2.1.1
      exact ⟨w.2.2.1, w.2.2.2, fun y => absurd y (by omega), fun _ => w.2.1, by omega, by omega⟩
    · have w := T.1 (Bool.eq_false_iff.mpr q)
      rw [w.2.2]
      exact ⟨rfl, by decide, fun _ => rfl, fun y => absurd w.1 y, by omega, by omega⟩
  have rz : ∀ r, r < 6 → mUse d r = 0 ∧ mWds d r = 0 ∧ mLst d r = 0 := fun r hr => by
    have w := Rw r hr
    refine ⟨?_, ?_, ?_⟩
    · show dn _ _ = 0; unfold dn; rw [w.2.1]; rfl
    · show dn _ _ = 0; unfold dn; rw [w.2.2.1]; rfl
    · show dn _ _ = 0; unfold dn; rw [w.2.2.2.1]; rfl
  have W : WF d := by
    refine ⟨gd1, ⟨⟨h1, b0⟩, b1, b2, b3, b4, by omega, by omega, by omega, tk.2.2.2.2.1, tk.2.2.2.2.2, ((Rw 0 (by decide)).2.2.2.2.2 (show 0 < dn d 0 by omega)).2⟩, fun r hr => ?_, fun p hp => (P p hp).2⟩
    have w := Rw r hr
    obtain ⟨u1, u2, u3⟩ := rz r hr
    rw [u1, u2, u3]
    refine ⟨w.1, Nat.zero_le _, Nat.le_refl _, by decide, Nat.le_refl _, fun h => absurd h (by decide), fun _ => ⟨rfl, rfl⟩, fun t ht => absurd ht (Nat.not_lt_zero t), ?_⟩
    rcases w.2.2.2.2.1 with q | q
    · exact Or.inl q
    · exact Or.inr ⟨0, by omega, by rw [q]; rfl⟩
  refine ⟨W, fun _ => by omega, ?_⟩
  obtain ⟨⟨a0, a1, a2, a3, a4, a5, a6, a7⟩, ⟨F, GF⟩, RR3, RP⟩ := R
  refine ⟨⟨a0, a1, a2, a3, a4, by rw [a5, z5], by rw [a7, z6], by rw [a6, z7]⟩, fun x y hx hy => ?_, fun r hr => ?_, fun p hp => ?_, L, tk.1, tk.2.1, G.1, G.2, tk.2.2.1, fun h => ?_⟩
  · obtain ⟨gx1, gx2, gx3⟩ := GF x hx
    obtain ⟨gy1, gy2, gy3⟩ := GF y hy
    unfold alk
    by_cases cx : dn d (10 + x) = 0
    · rw [gx2 cx]
      by_cases cy : dn d (10 + y) = 0
      · rw [gy2 cy, nI_eq (by omega) (by omega), cx, cy]
        simp
      · have w := gy3 cy
        rw [w.2.1, nI_eq (by omega) (by omega), cx]
        simp
        constructor
        · intro q
          have : x = F (dn d (10 + y)) := by omega
          rw [← this] at w
          exact absurd (w.2.2.symm.trans cx) cy
        · intro q
          rw [q] at cx
          exact absurd cx cy
    · have wx := gx3 cx
      rw [wx.2.1]
      by_cases cy : dn d (10 + y) = 0
      · rw [gy2 cy, nI_eq (by omega) (by omega), cy]
        simp
        constructor
        · intro q
          have : F (dn d (10 + x)) = y := by omega
          rw [this] at wx
          exact absurd (wx.2.2.symm.trans cy) cx
        · intro q
          rw [q] at cx
          exact absurd cy cx
      · have wy := gy3 cy
        rw [wy.2.1, nI_eq (by omega) (by omega)]
        simp
        constructor
        · intro q
          refine Or.inr ⟨cx, ?_⟩
          rw [← wx.2.2, ← wy.2.2, q]
        · rintro (q | q)
          · rw [q]
          · rw [q.2]
  · have r6 : r < 6 := by omega
    obtain ⟨s1, s2, s3, s4, s5⟩ := RR3 r r6
    have w := Rw r r6
    obtain ⟨u1, u2, u3⟩ := rz r r6
    refine ⟨s5 hr, by rw [s1, w.2.1], by rw [s2, w.2.2.1], by rw [s3, (w.2.2.2.2.2 hr).1], ?_, fun t ht => by rw [u1] at ht; exact absurd ht (Nat.not_lt_zero t)⟩
    rw [u3, s4]
    rfl
  · have p4 : p < 4 := by omega
    obtain ⟨s1, s2, s3⟩ := RP p p4
    exact ⟨s1, by rw [s2, (P p p4).1], s3⟩
  · have w := tk.2.2.2.1 h
    exact ⟨w.1, fun i hi => w.2 i (by rw [← w.1]; exact hi)⟩
