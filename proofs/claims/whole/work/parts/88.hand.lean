/-! WORDS OF HANDS: what is read; the data and the class' game with one word more -/
def ltr (tx : Nat → Nat) (a j : Nat) (d : SD) : Nat → SD
  | 0 => d
  | q + 1 => upd (ltr tx a j d q) (a + 1 + q) (nI (tx (j + q) - 97))
def addW (tx : Nat → Nat) (d : SD) (p j n : Nat) : SD := upd (ltr tx (wA p (mMany d p)) j (upd d (wA p (mMany d p)) (nI n)) n) (pA p + 1) (nI (mMany d p + 1))
def spTxt (tx : Nat → Nat) (n p i : Nat) (d : SD) : Except ERR (Nat × SD) :=
  exB (spRun tx n i) (fun k => if 8 < k - skp tx n i then .error (-3, skp tx n i) else if mMany d p = 8 then .error (-5, skp tx n i) else .ok (k, addW tx d p (skp tx n i) (k - skp tx n i)))
def spHandL (tx : Nat → Nat) (n p : Nat) : Nat → Nat → SD → Except ERR (Nat × SD)
  | 0, i, d => .ok (i, d)
  | f + 1, i, d => exB (spTxt tx n p i d) (fun q => if isL (bt tx n (skp tx n q.1)) = true then spHandL tx n p f (skp tx n q.1) q.2 else .ok (skp tx n q.1, q.2))
def spHand (tx : Nat → Nat) (n i : Nat) (d : SD) : Except ERR (Nat × SD) := exB (spNum tx n 0 (dn d 1 - 1) i) (fun q => spHandL tx n q.2 9 q.1 d)
theorem ltr_in {tx : Nat → Nat} {a j : Nat} {d : SD} : ∀ (m q : Nat), q < m → ltr tx a j d m (a + 1 + q) = nI (tx (j + q) - 97)
  | 0, _, h => absurd h (Nat.not_lt_zero _)
  | m + 1, q, h => by
    unfold ltr
    by_cases z : q = m
    · rw [z, upd_at]
    · rw [upd_ot _ _ (by omega)]; exact ltr_in m q (by omega)
theorem ltr_out {tx : Nat → Nat} {a j : Nat} {d : SD} {i : Nat} : ∀ (m : Nat), (i < a + 1 ∨ a + 1 + m ≤ i) → ltr tx a j d m i = d i
  | 0, _ => rfl
  | m + 1, h => by
    unfold ltr
    rw [upd_ot _ _ (by omega)]
    exact ltr_out m (by omega)
section AW
variable {tx : Nat → Nat} {d : SD} {p j n : Nat}
theorem aw_far {i : Nat} (h1 : i ≠ pA p + 1) (h2 : i < wA p (mMany d p) ∨ wA p (mMany d p) + 1 + n ≤ i) : addW tx d p j n i = d i := by
  unfold addW
  rw [upd_ot _ _ h1, ltr_out n (by omega), upd_ot _ _ (by omega)]
theorem aw_len : addW tx d p j n (wA p (mMany d p)) = nI n := by
  unfold addW
  have ne : wA p (mMany d p) ≠ pA p + 1 := by show 306 + 74 * p + 2 + 9 * mMany d p ≠ 306 + 74 * p + 1; omega
  rw [upd_ot _ _ ne, ltr_out n (Or.inl (Nat.lt_succ_self _)), upd_at]
theorem aw_let {q : Nat} (h : q < n) : addW tx d p j n (wA p (mMany d p) + 1 + q) = nI (tx (j + q) - 97) := by
  unfold addW
  rw [upd_ot _ _ (show 306 + 74 * p + 2 + 9 * mMany d p + 1 + q ≠ 306 + 74 * p + 1 by omega), ltr_in n q h]
theorem aw_many : addW tx d p j n (pA p + 1) = nI (mMany d p + 1) := upd_at _ _ _
theorem aw_farn {i : Nat} (h1 : i ≠ pA p + 1) (h2 : i < wA p (mMany d p) ∨ wA p (mMany d p) + 1 + n ≤ i) : dn (addW tx d p j n) i = dn d i := by unfold dn; rw [aw_far h1 h2]
theorem aw_manyn (h8 : mMany d p ≤ 8) : mMany (addW tx d p j n) p = mMany d p + 1 := by
  show dn _ _ = _
  unfold dn
  rw [aw_many]
  exact nI_clamp (by omega)
theorem DW_add (D : DW d) (hp : p < 4) (hm : mMany d p < 8) (hn : 1 ≤ n ∧ n ≤ 8) (hl : ∀ q, q < n → isL (tx (j + q)) = true) : DW (addW tx d p j n) := by
  obtain ⟨g, A, R, P⟩ := D
  have lo : ∀ i, i < 306 → addW tx d p j n i = d i := fun i h => aw_far (show i ≠ 306 + 74 * p + 1 by omega) (Or.inl (show i < 306 + 74 * p + 2 + 9 * mMany d p by omega))
  have lon : ∀ i, i < 306 → dn (addW tx d p j n) i = dn d i := fun i h => by unfold dn; rw [lo i h]
  refine ⟨fun i hi => ?_, ?_, fun r hr => ?_, fun q hq => ?_⟩
  · by_cases c1 : i = pA p + 1
    · rw [c1, show dn (addW tx d p j n) (pA p + 1) = mMany d p + 1 from aw_manyn (by omega), aw_many]
      exact ⟨rfl, by omega⟩
    · by_cases c2 : i < wA p (mMany d p) ∨ wA p (mMany d p) + 1 + n ≤ i
      · rw [aw_far c1 c2, aw_farn c1 c2]; exact g i hi
      · by_cases c3 : i = wA p (mMany d p)
        · unfold dn
          rw [c3, aw_len]
          exact gv n (by omega)
        · have e : i = wA p (mMany d p) + 1 + (i - (wA p (mMany d p) + 1)) := by omega
          have l := isL_t (hl (i - (wA p (mMany d p) + 1)) (by omega))
          unfold dn
          rw [e, aw_let (by omega)]
          exact gv _ (by omega)
  · rw [lon 0 (by decide), lon 1 (by decide), lon 2 (by decide), lon 3 (by decide), lon 4 (by decide), lo 5 (by decide), lo 6 (by decide), lo 7 (by decide)]
    exact A
  · have e0 : mTil (addW tx d p j n) r = mTil d r := lon _ (show 36 + 45 * r < 306 by omega)
    rw [e0, lon 0 (by decide), lo _ (show 36 + 45 * r + 1 < 306 by omega), lo _ (show 36 + 45 * r + 2 < 306 by omega), lo _ (show 36 + 45 * r + 3 < 306 by omega), lo _ (show 36 + 45 * r + 4 < 306 by omega)]
    exact R r hr
  · obtain ⟨p1, p2, p3⟩ := P q hq
    by_cases z : q = p
    · subst z
      rw [aw_manyn (by omega)]
      refine ⟨(aw_far (show 306 + 74 * q ≠ 306 + 74 * q + 1 by omega) (Or.inl (show 306 + 74 * q < 306 + 74 * q + 2 + 9 * mMany d q by omega))).trans p1, by omega, fun k hk => ?_⟩
      by_cases y : k = mMany d q
      · have el : mLen (addW tx d q j n) q k = n := by
          rw [y]
          show dn _ _ = n
          unfold dn
          rw [aw_len]
          exact nI_clamp (by omega)
        rw [el]
        refine ⟨hn, fun r hr => ?_⟩
        have l := isL_t (hl r hr)
        unfold dn
        rw [y, aw_let hr, nI_clamp (by omega)]
        omega
      · have k3 := p3 k (by omega)
        have cell : ∀ c, c < 9 → dn (addW tx d q j n) (wA q k + c) = dn d (wA q k + c) := fun c hc => aw_farn (show 306 + 74 * q + 2 + 9 * k + c ≠ 306 + 74 * q + 1 by omega) (Or.inl (show 306 + 74 * q + 2 + 9 * k + c < 306 + 74 * q + 2 + 9 * mMany d q by omega))
        have el : mLen (addW tx d q j n) q k = mLen d q k := cell 0 (by decide)
        rw [el]
        refine ⟨k3.1, fun r hr => ?_⟩
        rw [Nat.add_assoc, cell (1 + r) (by omega), ← Nat.add_assoc]
        exact k3.2 r hr
    · have cell : ∀ c, c < 74 → addW tx d p j n (pA q + c) = d (pA q + c) := fun c hc => aw_far (show 306 + 74 * q + c ≠ 306 + 74 * p + 1 by omega) (by
        show 306 + 74 * q + c < 306 + 74 * p + 2 + 9 * mMany d p ∨ 306 + 74 * p + 2 + 9 * mMany d p + 1 + n ≤ 306 + 74 * q + c
        omega)
      have celln : ∀ c, c < 74 → dn (addW tx d p j n) (pA q + c) = dn d (pA q + c) := fun c hc => by unfold dn; rw [cell c hc]
      have em : mMany (addW tx d p j n) q = mMany d q := celln 1 (by decide)
      rw [em]
      refine ⟨(cell 0 (by decide)).trans p1, p2, fun k hk => ?_⟩
      have k3 := p3 k hk
      have cw : ∀ c, c < 9 → dn (addW tx d p j n) (wA q k + c) = dn d (wA q k + c) := fun c hc => by
        have := celln (2 + 9 * k + c) (by omega)
        rw [show pA q + (2 + 9 * k + c) = wA q k + c by show 306 + 74 * q + (2 + 9 * k + c) = 306 + 74 * q + 2 + 9 * k + c; omega] at this
        exact this
      have el : mLen (addW tx d p j n) q k = mLen d q k := cw 0 (by decide)
      rw [el]
      refine ⟨k3.1, fun r hr => ?_⟩
      rw [Nat.add_assoc, cw (1 + r) (by omega), ← Nat.add_assoc]
      exact k3.2 r hr
theorem RR_add {I I' : MI} {J J' : MJ} {g : Nat} (D : DW d) (R : RR I J d g) (hp : p < 4) (hm : mMany d p < 8) (hn : 1 ≤ n ∧ n ≤ 8) (hI : I' = sI I 10 13 p (nI (mMany d p + 1))) (hJ : J' = sJ J 10 12 (8 * p + mMany d p) (lN (pkN (addW tx d p j n) (wA p (mMany d p) + 1) n))) : RR I' J' (addW tx d p j n) g := by
  obtain ⟨A, G, Rw, P⟩ := R
  have lo : ∀ i, i < 306 → addW tx d p j n i = d i := fun i h => aw_far (show i ≠ 306 + 74 * p + 1 by omega) (Or.inl (show i < 306 + 74 * p + 2 + 9 * mMany d p by omega))
  have lon : ∀ i, i < 306 → dn (addW tx d p j n) i = dn d i := fun i h => by unfold dn; rw [lo i h]
  have o : ∀ r, r ≠ 13 → I' 10 r = I 10 r := fun r h => by rw [hI]; exact sI_ro _ _ _ _ _ h
  have j10 : J' 10 10 = J 10 10 := by rw [hJ]; unfold sJ; exact rJ_ne (by omega)
  refine ⟨?_, ?_, fun r hr => ?_, fun q hq => ?_⟩
  · rw [o 1 (by decide), o 0 (by decide), lo 0 (by decide), lo 1 (by decide), lo 2 (by decide), lo 3 (by decide), lo 4 (by decide)]
    exact A
  · obtain ⟨F, G⟩ := G
    refine ⟨F, fun x hx => ?_⟩
    have z := G x hx
    rw [o 4 (by decide), lon (10 + x) (by omega)]
    refine ⟨z.1, z.2.1, fun y => ?_⟩
    have z3 := z.2.2 y
    rw [lon (10 + F (dn d (10 + x))) (by omega)]
    exact z3
  · rw [o 8 (by decide), o 9 (by decide), o 11 (by decide), o 3 (by decide), j10, lo _ (show 36 + 45 * r < 306 by omega), lon 0 (by decide)]
    exact Rw r hr
  · obtain ⟨p1, p2, p3⟩ := P q hq
    have dp := D.2.2.2 q hq
    rw [o 14 (by decide)]
    by_cases z : q = p
    · subst z
      rw [aw_manyn (by omega), hI, sI_at, aw_many]
      refine ⟨rfl, p2, fun k hk => ?_⟩
      by_cases y : k = mMany d q
      · have el : mLen (addW tx d q j n) q k = n := by
          rw [y]
          show dn _ _ = n
          unfold dn
          rw [aw_len]
          exact nI_clamp (by omega)
        rw [el, hJ, y, sJ_at]
      · have k3 := dp.2.2 k (by omega)
        have cell : ∀ c, c < 9 → dn (addW tx d q j n) (wA q k + c) = dn d (wA q k + c) := fun c hc => aw_farn (show 306 + 74 * q + 2 + 9 * k + c ≠ 306 + 74 * q + 1 by omega) (Or.inl (show 306 + 74 * q + 2 + 9 * k + c < 306 + 74 * q + 2 + 9 * mMany d q by omega))
        have el : mLen (addW tx d q j n) q k = mLen d q k := cell 0 (by decide)
        rw [el, hJ, sJ_ot _ _ _ _ (by omega), p3 k (by omega), pk_ch (d := d) (d' := addW tx d q j n) _ (fun r hr => by rw [Nat.add_assoc, cell (1 + r) (by omega)])]
    · have cell : ∀ c, c < 74 → addW tx d p j n (pA q + c) = d (pA q + c) := fun c hc => aw_far (show 306 + 74 * q + c ≠ 306 + 74 * p + 1 by omega) (by
        show 306 + 74 * q + c < 306 + 74 * p + 2 + 9 * mMany d p ∨ 306 + 74 * p + 2 + 9 * mMany d p + 1 + n ≤ 306 + 74 * q + c
        omega)
      have celln : ∀ c, c < 74 → dn (addW tx d p j n) (pA q + c) = dn d (pA q + c) := fun c hc => by unfold dn; rw [cell c hc]
      have em : mMany (addW tx d p j n) q = mMany d q := celln 1 (by decide)
      rw [em, hI, sI_ot _ _ _ _ z, cell 1 (by decide)]
      refine ⟨p1, p2, fun k hk => ?_⟩
      have k3 := dp.2.2 k hk
      have cw : ∀ c, c < 9 → dn (addW tx d p j n) (wA q k + c) = dn d (wA q k + c) := fun c hc => by
        have := celln (2 + 9 * k + c) (by omega)
        rw [show pA q + (2 + 9 * k + c) = wA q k + c by show 306 + 74 * q + (2 + 9 * k + c) = 306 + 74 * q + 2 + 9 * k + c; omega] at this
        exact this
      have el : mLen (addW tx d p j n) q k = mLen d q k := cw 0 (by decide)
      rw [el, hJ, sJ_ot _ _ _ _ (by omega), p3 k hk, pk_ch (d := d) (d' := addW tx d p j n) _ (fun r hr => by rw [Nat.add_assoc, cw (1 + r) (by omega)])]
end AW
/-- bytes packed -/
theorem k_ofBytes {I : MI} {J : MJ} {b1 r1 n1 : Nat} {x1 x2 : Int32} {Q : Int64 → MI → MJ → Prop} (e : SD) (a m f : Nat) (h8 : m ≤ 8) (hn : n1 < 2 ^ 31) (hf : f + m ≤ n1) (e1 : x1 = nI f) (e2 : x2 = nI (f + m)) (hb : ∀ q, q < m → I b1 r1 (f + q) = nI (97 + dn e (a + q)) ∧ dn e (a + q) < 26) (h : Q (lN (pkN e a m)) I J) : f_X6_ofBytes b1 r1 n1 x1 x2 I J Q := by
  have lt : ∀ q, q ≤ m → pkN e a q < 32 ^ q := fun q hq => pkN_lt (fun r hr => (hb r (by omega)).2)
  have p32 : ∀ q, q ≤ 8 → 32 ^ q ≤ 2 ^ 40 := by decide
  refine ⟨m + 1, ?_⟩
  rw [e1]
  have key : ∀ r q : Nat, q + r = m → f_X6_ofBytes_L5 b1 r1 n1 x2 (fun x3_11 I_12 J_13 => Q x3_11 I_12 J_13) (r + 1) (lN (pkN e a q)) (nI (f + q)) I J := by
    intro r
    induction r with
    | zero =>
      intro q hq
      have : q = m := by omega
      subst this
      show f_X6_ofBytes_B5 _ _ _ _ _ _ _ _ I J
      exact q_t (by rw [e2]; exact Int32.le_refl _) h
    | succ r ih =>
      intro q hq
      show f_X6_ofBytes_B5 _ _ _ _ _ _ _ _ I J
      have b := hb q (by omega)
      have l := lt q (by omega)
      have l2 := p32 q (by omega)
      refine q_f (by rw [e2]; exact nge (by omega) (by omega)) (q_f (nge (by omega) hn) ⟨vin (f + q) n1 (by omega) hn rfl, fun x3 ex3 x5 ex5 => ?_⟩)
      have q5 : x5 = nI (f + (q + 1)) := by rw [ex5, nlit 1, nI_add, Nat.add_assoc]
      have q3 : x3 = lN (pkN e a (q + 1)) := by
        rw [ex3, nI_clamp (show f + q < 2 ^ 31 by omega), b.1, nlit 97, nsub (by omega), nlit 1, nI_add, show (5 : Int32) = nI 5 from rfl, wb_shl _ (by decide), show 97 + dn e (a + q) - 97 + 1 = dn e (a + q) + 1 by omega]
        have ei : (nI (dn e (a + q) + 1)).toInt64 = lN (dn e (a + q) + 1) := by
          apply Int64.toInt_inj.mp
          rw [Int32.toInt_toInt64, nI_toInt (by omega), lN_toInt (by omega)]
        have sh := Nat.shiftLeft_add_eq_or_of_lt (i := 5) (b := dn e (a + q) + 1) (by omega) (pkN e a q)
        rw [Nat.shiftLeft_eq] at sh
        rw [ei, wb_or (by omega) (by omega), ← sh, pkN_s, Nat.mul_comm]
      rw [q3, q5]
      exact ih (q + 1) (by omega)
  exact key m 0 (Nat.zero_add m)
