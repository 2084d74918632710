/-! ROWS OF A ROOF, on both sides -/
def layR (d : SD) (v : Nat) : SD := upd (upd (upd d (rA (dn d 0)) (nI v)) (rA (dn d 0) + 3) (-1)) 0 (nI (dn d 0 + 1))
def spRows (tx : Nat → Nat) (n : Nat) : Nat → Nat → SD → Except ERR (Nat × SD)
  | 0, i, d => .ok (i, d)
  | f + 1, i, d => exB (spNum tx n 1 40 i) (fun q => if dn d 0 = 6 then .error (-5, skp tx n i) else if isD (bt tx n (skp tx n q.1)) = true then spRows tx n f (skp tx n q.1) (layR d q.2) else .ok (skp tx n q.1, layR d q.2))
def spRoof (tx : Nat → Nat) (n i : Nat) (d : SD) : Except ERR (Nat × SD) :=
  exB (spRun tx n i) (fun k => if runIs tx n 0 (skp tx n i) k = true then exB (spRows tx n 7 k d) (fun q => exB (spSign tx n 59 q.1) (fun j => .ok (j, q.2))) else .error (-2, skp tx n i))
section LR
variable {d : SD} {v : Nat}
theorem lr_0 : layR d v 0 = nI (dn d 0 + 1) := upd_at _ _ _
theorem lr_0n (h : dn d 0 < 6) : dn (layR d v) 0 = dn d 0 + 1 := by unfold dn; rw [lr_0]; exact nI_clamp (by show dn d 0 + 1 < 2 ^ 31; omega)
theorem lr_t : layR d v (rA (dn d 0)) = nI v := by
  unfold layR
  rw [upd_ot _ _ (show 36 + 45 * dn d 0 ≠ 0 by omega), upd_ot _ _ (show 36 + 45 * dn d 0 ≠ 36 + 45 * dn d 0 + 3 by omega)]
  exact upd_at _ _ _
theorem lr_o : layR d v (rA (dn d 0) + 3) = -1 := by
  unfold layR
  rw [upd_ot _ _ (show 36 + 45 * dn d 0 + 3 ≠ 0 by omega)]
  exact upd_at _ _ _
theorem lr_far {i : Nat} (h0 : i ≠ 0) (h1 : i ≠ rA (dn d 0)) (h3 : i ≠ rA (dn d 0) + 3) : layR d v i = d i := by
  unfold layR
  rw [upd_ot _ _ h0, upd_ot _ _ h3, upd_ot _ _ h1]
theorem lr_farn {i : Nat} (h0 : i ≠ 0) (h1 : i ≠ rA (dn d 0)) (h3 : i ≠ rA (dn d 0) + 3) : dn (layR d v) i = dn d i := by unfold dn; rw [lr_far h0 h1 h3]
theorem DW_row (D : DW d) (hr : dn d 0 < 6) (h1v : 1 ≤ v) (hv : v ≤ 40) : DW (layR d v) := by
  obtain ⟨g, ⟨a0, a1, a2, a3, a4, a5, a6, a7⟩, R, P⟩ := D
  have lo : ∀ i, 0 < i → i < 36 → layR d v i = d i := fun i h1 h2 => lr_far (by omega) (show i ≠ 36 + 45 * dn d 0 by omega) (show i ≠ 36 + 45 * dn d 0 + 3 by omega)
  have lon : ∀ i, 0 < i → i < 36 → dn (layR d v) i = dn d i := fun i h1 h2 => by unfold dn; rw [lo i h1 h2]
  refine ⟨fun i hi => ?_, ⟨by rw [lr_0n hr]; omega, by rw [lon 1 (by decide) (by decide)]; exact a1, by rw [lon 2 (by decide) (by decide)]; exact a2, by rw [lon 3 (by decide) (by decide)]; exact a3, by rw [lon 4 (by decide) (by decide)]; exact a4, by rw [lo 5 (by decide) (by decide)]; exact a5, by rw [lo 6 (by decide) (by decide)]; exact a6, by rw [lo 7 (by decide) (by decide)]; exact a7⟩, fun r hr2 => ?_, fun p hp => ?_⟩
  · by_cases c0 : i = 0
    · rw [c0, lr_0n hr, lr_0]; exact ⟨rfl, by omega⟩
    · by_cases c1 : i = rA (dn d 0)
      · unfold dn
        rw [c1, lr_t]
        exact gv v (by omega)
      · have c3 : i ≠ rA (dn d 0) + 3 := by
          have := hi.2.1 (dn d 0) hr
          show i ≠ 36 + 45 * dn d 0 + 3
          omega
        rw [lr_far c0 c1 c3, lr_farn c0 c1 c3]
        exact g i hi
  · obtain ⟨r1, r2, r3, r4, r5, r6⟩ := R r hr2
    have f : ∀ k, k < 45 → k ≠ 0 → k ≠ 3 → layR d v (rA r + k) = d (rA r + k) := fun k hk k0 k3 => lr_far (show 36 + 45 * r + k ≠ 0 by omega) (show 36 + 45 * r + k ≠ 36 + 45 * dn d 0 by omega) (show 36 + 45 * r + k ≠ 36 + 45 * dn d 0 + 3 by omega)
    rw [f 1 (by decide) (by decide) (by decide), f 2 (by decide) (by decide) (by decide), f 4 (by decide) (by decide) (by decide), lr_0n hr]
    by_cases z : r = dn d 0
    · have et : mTil (layR d v) r = v := by
        show dn _ _ = v
        unfold dn
        rw [z, lr_t]
        exact nI_clamp (by omega)
      rw [et]
      refine ⟨hv, r2, r3, r4, Or.inl (by rw [z]; exact lr_o), fun _ => ⟨by rw [z]; exact lr_o, h1v⟩⟩
    · have e0 : mTil (layR d v) r = mTil d r := lr_farn (show 36 + 45 * r ≠ 0 by omega) (show 36 + 45 * r ≠ 36 + 45 * dn d 0 by omega) (show 36 + 45 * r ≠ 36 + 45 * dn d 0 + 3 by omega)
      have e3 : layR d v (rA r + 3) = d (rA r + 3) := lr_far (show 36 + 45 * r + 3 ≠ 0 by omega) (show 36 + 45 * r + 3 ≠ 36 + 45 * dn d 0 by omega) (show 36 + 45 * r + 3 ≠ 36 + 45 * dn d 0 + 3 by omega)
      rw [e0, e3]
      exact ⟨r1, r2, r3, r4, r5, fun h => r6 (by omega)⟩
  · obtain ⟨p1, p2, p3⟩ := P p hp
    have f : ∀ i, 306 ≤ i → layR d v i = d i := fun i h => lr_far (by omega) (show i ≠ 36 + 45 * dn d 0 by omega) (show i ≠ 36 + 45 * dn d 0 + 3 by omega)
    have fn : ∀ i, 306 ≤ i → dn (layR d v) i = dn d i := fun i h => by unfold dn; rw [f i h]
    have em : mMany (layR d v) p = mMany d p := fn _ (show 306 ≤ 306 + 74 * p + 1 by omega)
    rw [em]
    refine ⟨(f _ (show 306 ≤ 306 + 74 * p by omega)).trans p1, p2, fun k hk => ?_⟩
    have el : mLen (layR d v) p k = mLen d p k := fn _ (show 306 ≤ 306 + 74 * p + 2 + 9 * k by omega)
    rw [el]
    refine ⟨(p3 k hk).1, fun j hj => ?_⟩
    rw [fn _ (show 306 ≤ 306 + 74 * p + 2 + 9 * k + 1 + j by omega)]
    exact (p3 k hk).2 j hj
theorem RR_row {I I' : MI} {J : MJ} {g : Nat} (R : RR I J d g) (hr : dn d 0 < 6) (o : ∀ r, r ≠ 1 → r ≠ 3 → I' 10 r = I 10 r) (o1 : I' 10 1 = upd (I 10 1) 3 (nI (dn d 0 + 1))) (o3 : I' 10 3 = upd (I 10 3) (dn d 0) (nI v)) : RR I' J (layR d v) g := by
  obtain ⟨⟨a0, a1, a2, a3, a4, a5, a6, a7⟩, G, Rw, P⟩ := R
  have lo : ∀ i, 0 < i → i < 36 → layR d v i = d i := fun i h1 h2 => lr_far (by omega) (show i ≠ 36 + 45 * dn d 0 by omega) (show i ≠ 36 + 45 * dn d 0 + 3 by omega)
  have lon : ∀ i, 0 < i → i < 36 → dn (layR d v) i = dn d i := fun i h1 h2 => by unfold dn; rw [lo i h1 h2]
  refine ⟨?_, ?_, fun r hr2 => ?_, fun p hp => ?_⟩
  · rw [o1, o 0 (by decide) (by decide), upd_at, upd_ot _ _ (by decide), upd_ot _ _ (by decide), upd_ot _ _ (by decide), upd_ot _ _ (by decide), lr_0, lo 1 (by decide) (by decide), lo 2 (by decide) (by decide), lo 3 (by decide) (by decide), lo 4 (by decide) (by decide)]
    exact ⟨rfl, a1, a2, a3, a4, a5, a6, a7⟩
  · obtain ⟨F, G⟩ := G
    refine ⟨F, fun x hx => ?_⟩
    have z := G x hx
    rw [o 4 (by decide) (by decide), lon (10 + x) (by omega) (by omega)]
    refine ⟨z.1, z.2.1, fun y => ?_⟩
    have z3 := z.2.2 y
    rw [lon (10 + F (dn d (10 + x))) (by omega) (by omega)]
    exact z3
  · obtain ⟨r1, r2, r3, r4, r5⟩ := Rw r hr2
    rw [o 8 (by decide) (by decide), o 9 (by decide) (by decide), o 11 (by decide) (by decide), o3, lr_0n hr]
    refine ⟨r1, r2, r3, r4, fun h => ?_⟩
    by_cases z : r = dn d 0
    · rw [z, upd_at, lr_t]
    · rw [upd_ot _ _ z, lr_far (show 36 + 45 * r ≠ 0 by omega) (show 36 + 45 * r ≠ 36 + 45 * dn d 0 by omega) (show 36 + 45 * r ≠ 36 + 45 * dn d 0 + 3 by omega)]
      exact r5 (by omega)
  · obtain ⟨p1, p2, p3⟩ := P p hp
    have f : ∀ i, 306 ≤ i → layR d v i = d i := fun i h => lr_far (by omega) (show i ≠ 36 + 45 * dn d 0 by omega) (show i ≠ 36 + 45 * dn d 0 + 3 by omega)
    have fn : ∀ i, 306 ≤ i → dn (layR d v) i = dn d i := fun i h => by unfold dn; rw [f i h]
    have em : mMany (layR d v) p = mMany d p := fn _ (show 306 ≤ 306 + 74 * p + 1 by omega)
    rw [o 13 (by decide) (by decide), o 14 (by decide) (by decide), f _ (show 306 ≤ 306 + 74 * p + 1 by omega), em]
    refine ⟨p1, p2, fun k hk => ?_⟩
    have el : mLen (layR d v) p k = mLen d p k := fn _ (show 306 ≤ 306 + 74 * p + 2 + 9 * k by omega)
    rw [el, p3 k hk, pk_ch (d := d) (d' := layR d v) _ (fun j hj => fn _ (show 306 ≤ 306 + 74 * p + 2 + 9 * k + 1 + j by omega))]
end LR
section RW
variable {tx : Nat → Nat} {n sn g : Nat} {L : List TK} {hd : Bool}
theorem k_rowsL {Q : Int32 → MI → MJ → Prop} : ∀ (f i c m : Nat) (d : SD) (I : MI) (J : MJ), 7 - dn d 0 ≤ f → f ≤ m → c ≤ dn d 0 → KS tx n i d L sn hd g I J → DW d →
    (∀ k d', spRows tx n f i d = .ok (k, d') → ∀ I' J', KS tx n k d' L sn hd g I' J' → kF I I' J J' → DW d' → 1 ≤ dn d' 0 → Q 1 I' J') → (∀ c' o, spRows tx n f i d = .error (c', o) → ∀ I' J', kE c' o I I' J J' → Q 0 I' J') →
    f_X5_readRows_J35 (fun (I_26 : MI) (J_27 : MJ) => Q (1 : Int32) I_26 J_27) (fun (I_28 : MI) (J_29 : MJ) => Q (0 : Int32) I_28 J_29) (fun (I_30 : MI) (J_31 : MJ) => f_X5_fail (-5 : Int32) (I_30 11 4 7) I_30 J_31 (fun (v_34 : Int32) (I_32 : MI) (J_33 : MJ) => (bo v_34 ∧ Q v_34 I_32 J_33)))
      (f_X5_readRows_L15 (fun (I_26 : MI) (J_27 : MJ) => Q (1 : Int32) I_26 J_27) (fun (I_28 : MI) (J_29 : MJ) => Q (0 : Int32) I_28 J_29) (fun (I_30 : MI) (J_31 : MJ) => f_X5_fail (-5 : Int32) (I_30 11 4 7) I_30 J_31 (fun (v_34 : Int32) (I_32 : MI) (J_33 : MJ) => (bo v_34 ∧ Q v_34 I_32 J_33))) m) (nI c) I J := by
  intro f
  induction f with
  | zero =>
    intro i c m d I J h9 _ _ _ D
    have := D.2.1.1
    omega
  | succ f ih =>
    intro i c m d I J h9 hfm hc S D hQ hE
    have d0 := D.2.1.1
    obtain ⟨m', rfl⟩ : ∃ m', m = m' + 1 := ⟨m - 1, by omega⟩
    refine k_number S.1 rfl rfl (by decide) (by decide) (fun k v ek I1 a1 f1 e6 e7 l1 l2 _ => q_f (by decide) ?_) (fun c' o ek I' er => q_t rfl (hE c' o (by show exB (spNum tx n 1 40 i) _ = _; rw [ek]; rfl) I' J (kE_er er)))
    have es : spRows tx n (f + 1) i d = if dn d 0 = 6 then .error (-5, skp tx n i) else if isD (bt tx n (skp tx n k)) = true then spRows tx n f (skp tx n k) (layR d v) else .ok (skp tx n k, layR d v) := by
      show exB (spNum tx n 1 40 i) _ = _
      rw [ek]
      rfl
    rw [es] at hQ hE
    have S1 := KS_fo S f1 a1
    have e0 : I1 10 1 3 = nI (dn d 0) := S1.2.2.2.2.1.1.1.trans (D.1 0 (okc_lo (by decide))).1
    refine q_lt (dn d 0) 6 (by omega) (by decide) e0 rfl (fun h => ?_) (fun h => k_fail (skp tx n i) e7 (fun I' er => ⟨bo0, hE _ _ (if_pos (by omega)) I' J ((kF_fo f1).kE (kE_er er))⟩))
    rw [if_neg (by omega)] at hQ hE
    refine ⟨vin _ 6 h (by decide) e0, fun I16 e16 I17 e17 x2 ex2 => ?_⟩
    rw [cln (by omega) e0, e6] at e16
    have o11 : ∀ r, I17 11 r = I1 11 r := fun r => by rw [e17, e16]; unfold sI; rw [rI_ne (by omega), rI_ne (by omega)]
    have o : ∀ r, r ≠ 1 → r ≠ 3 → I17 10 r = I1 10 r := fun r h1 h3 => by rw [e17, sI_ro _ _ _ _ _ h1, e16, sI_ro _ _ _ _ _ h3]
    have o1 : I17 10 1 = upd (I1 10 1) 3 (nI (dn d 0 + 1)) := by
      rw [e17]
      refine (rI_same _ _ _ _).trans ?_
      rw [e16, sI_ro _ _ _ _ _ (by decide), e0, nlit 1, nI_add]
    have o3 : I17 10 3 = upd (I1 10 3) (dn d 0) (nI v) := by
      rw [e17, sI_ro _ _ _ _ _ (by decide), e16]
      exact rI_same _ _ _ _
    have lon : ∀ i, 0 < i → i < 36 → dn (layR d v) i = dn d i := fun i h1 h2 => lr_farn (by omega) (show i ≠ 36 + 45 * dn d 0 by omega) (show i ≠ 36 + 45 * dn d 0 + 3 by omega)
    have D' := DW_row (v := v) D h l1 l2
    have S17 : KS tx n k (layR d v) L sn hd g I17 J := by
      obtain ⟨s1, s2, s3, s4, s5, s6⟩ := S1
      refine ⟨KA_keep s1 (by rw [o11]) (by rw [o11]) (o11 5), by rw [o11]; exact s2, by rw [o11]; exact s3, ?_, RR_row s5 h o o1 o3, ?_⟩
      · obtain ⟨gm, g1, g2, g3⟩ := s4
        refine ⟨gm, g1, by rw [o11]; exact g2, fun x hx => ?_⟩
        rw [lon (10 + x) (by omega) (by omega)]
        exact g3 x hx
      · unfold gTok; rw [o 2 (by decide) (by decide), o 5 (by decide) (by decide)]; exact s6
    have F17 : kF I I17 J J := (kF_fo f1).trans ⟨fun b r nb m => by rw [e17, e16]; unfold sI; rw [rI_ne (fun y => nb y.1), rI_ne (fun y => nb y.1)], fun _ _ => rfl, fun q hq => by rw [o11]⟩
    rw [show x2 = nI (c + 1) from ex2.trans (nI_1 c)]
    show f_X5_readRows_B15 _ _ _ _ (nI (c + 1)) I17 J
    refine q_f (fun y => ?_) (q_f (fun y => ?_) (k_peek S17.1 (fun I2 a2 f2 _ _ => k_digit _ (bt_le S17.1 _) rfl ?_)))
    · have := (nI_ltI (a := 6) (b := c + 1) (by decide) (by omega)).mp y
      omega
    · have := (nI_eq (a := c + 1) (b := 0) (by omega) (by decide)).mp y
      omega
    · have S2 := KS_fo S17 f2 a2
      by_cases y : isD (bt tx n (skp tx n k)) = true
      · rw [if_pos y] at hQ hE
        rw [y]
        exact q_f (by decide) (ih (skp tx n k) (c + 1) m' (layR d v) I2 J (by rw [lr_0n h]; omega) (by omega) (by rw [lr_0n h]; omega) S2 D' (fun k2 d2 e2 I' J' S' F' => hQ k2 d2 e2 I' J' S' ((F17.trans (kF_fo f2)).trans F')) (fun c' o e2 I' J' E' => hE c' o e2 I' J' ((F17.trans (kF_fo f2)).kE E')))
      · rw [if_neg y] at hQ hE
        rw [Bool.eq_false_iff.mpr y]
        exact q_t rfl (hQ _ _ rfl I2 J S2 (F17.trans (kF_fo f2)) D' (by rw [lr_0n h]; omega))
theorem k_roof {I : MI} {J : MJ} {i : Nat} {d : SD} {Q : Int32 → MI → MJ → Prop} (S : KS tx n i d L sn hd g (sI I 10 1 3 0) J) (D : DW d) (hd0 : dn d 0 = 0)
    (hQ : ∀ k d', spRoof tx n i d = .ok (k, d') → ∀ I' J', KS tx n k d' L sn hd g I' J' → kF I I' J J' → DW d' → 1 ≤ dn d' 0 → Q 1 I' J') (hE : ∀ c o, spRoof tx n i d = .error (c, o) → ∀ I' J', kE c o I I' J J' → Q 0 I' J') : f_X5_readRoof I J Q := by
  have a0 : KA tx n i I := by
    have o : ∀ r, (sI I 10 1 3 0) 11 r = I 11 r := fun r => by unfold sI; exact rI_ne (by omega)
    have s := S.1
    exact KA_keep s (by rw [o]) (by rw [o]) (o 5).symm
  unfold spRoof at hQ hE
  refine k_run a0 (fun k ek I1 a1 f1 e7 gt => q_f (by decide) ?_) (fun c o ek I' er => q_t rfl (hE c o (by rw [ek]; rfl) I' J (kE_er er)))
  rw [ek, exB_ok] at hQ hE
  refine k_runIs (w := 0) (by decide) a1 e7 (Nat.le_of_lt gt) ?_
  by_cases y : runIs tx n 0 (skp tx n i) k = true
  · rw [if_pos y] at hQ hE ⊢
    have f1' : fo (sI I 10 1 3 0) (sI I1 10 1 3 0) := by
      refine ⟨fun b r m => ?_, fun q h4 h6 h7 => ?_⟩
      · unfold sI
        by_cases z : b = 10 ∧ r = 1
        · obtain ⟨z1, z2⟩ := z
          subst z1 z2
          rw [rI_same, rI_same, f1.1 10 1 m]
        · rw [rI_ne z, rI_ne z]; exact f1.1 b r m
      · unfold sI
        rw [rI_ne (by omega), rI_ne (by omega)]
        exact f1.2 q h4 h6 h7
    have o11 : ∀ r, (sI I1 10 1 3 0) 11 r = I1 11 r := fun r => by unfold sI; exact rI_ne (by omega)
    have S1 : KS tx n k d L sn hd g (sI I1 10 1 3 0) J := KS_fo S f1' (KA_keep a1 (by rw [o11]) (by rw [o11]) (o11 5))
    have Fx : kF I (sI I1 10 1 3 0) J J := (kF_fo f1).trans ⟨fun b r nb _ => by unfold sI; exact rI_ne (fun w => nb w.1), fun _ _ => rfl, fun q _ => by rw [o11]⟩
    refine q_f (by decide) (fun I2 e2 => ⟨8, ?_⟩)
    rw [e2]
    show f_X5_readRows_B15 _ _ _ _ (0 : Int32) (sI I1 10 1 3 0) J
    refine q_f (by decide) (q_t rfl (k_rowsL (Q := fun v I_13 J_14 => ((v = (0 : Int32) → Q (0 : Int32) I_13 J_14) ∧ (¬ v = (0 : Int32) → f_X5_readSign (59 : Int32) I_13 J_14 (fun (v_19 : Int32) (I_17 : MI) (J_18 : MJ) => ((v_19 = (0 : Int32) → Q (0 : Int32) I_17 J_18) ∧ (¬ v_19 = (0 : Int32) → Q (1 : Int32) I_17 J_18)))))) 7 k 0 7 d _ J (by omega) (Nat.le_refl _) (Nat.zero_le _) S1 D (fun k' d' e I' J' S' F' D' h1 => ?_) (fun c o e I' J' E' => q_t rfl (hE c o (by rw [e]; rfl) I' J' (Fx.kE E')))))
    rw [e, exB_ok] at hQ hE
    exact q_f (by decide) (k_sign S'.1 rfl (by decide) (fun j ej I2 a2 f2 => q_f (by decide) (hQ j d' (by rw [ej]; rfl) I2 J' (KS_fo S' f2 a2) ((Fx.trans F').trans (kF_fo f2)) D' h1)) (fun c o ej I2 er => q_t rfl (hE c o (by rw [ej]; rfl) I2 J' ((Fx.trans F').kE (kE_er er)))))
  · rw [if_neg y] at hE ⊢
    exact q_t rfl (k_fail (skp tx n i) e7 (fun I' er => ⟨bo0, hE _ _ rfl I' J ((kF_fo f1).kE (kE_er er))⟩))
theorem m_layRow {I : MI} {J : MJ} {d : SD} {v : Nat} {x1 x2 : Int32} {Q : MI → MJ → Prop} (r : Nat) (e1 : x1 = nI r) (e2 : x2 = nI v) (hr : r < 6) (hd : I 12 3 = d) (h : Q (rI I 12 3 (upd (upd d (rA r) (nI v)) (rA r + 3) (-1))) J) : f_X8_layRow 12 3 1802 x1 x2 I J Q := by
  have e0 : nI (rA r) + (0 : Int32) = nI (rA r) := e00 _
  have e3 : nI (rA r) + (3 : Int32) = nI (rA r + 3) := by rw [nlit 3, nI_add]
  refine m_rowAt r e1 ⟨vin (rA r) 1802 (show 36 + 45 * r < 1802 by omega) (by decide) e0, fun I5 e5 => m_rowAt r e1 ⟨vin (rA r + 3) 1802 (show 36 + 45 * r + 3 < 1802 by omega) (by decide) e3, fun I10 e10 => ?_⟩⟩
  rw [cln (show 36 + 45 * r < 2 ^ 31 by omega) e0, e2] at e5
  rw [cln (show 36 + 45 * r + 3 < 2 ^ 31 by omega) e3] at e10
  have : I10 = rI I 12 3 (upd (upd d (rA r) (nI v)) (rA r + 3) (-1)) := by
    rw [e10, e5]
    show rI (rI I 12 3 _) 12 3 _ = _
    rw [rI_rI]
    congr 1
    show upd (rI I 12 3 _ 12 3) _ _ = _
    rw [rI_same, hd]
  rw [this]
  exact h
theorem m_rowsL {Q : MI → MJ → Prop} {J : MJ} {K : MI → MJ → Prop} : ∀ (f i m : Nat) (d : SD) (I : MI), 7 - dn d 0 ≤ f → f ≤ m → MS tx n i d sn hd g I → DW d →
    (∀ k d', spRows tx n f i d = .ok (k, d') → ∀ I', MS tx n k d' sn hd g I' → mF I I' → DW d' → 1 ≤ dn d' 0 → K I' J) → (∀ c' o, spRows tx n f i d = .error (c', o) → ∀ I', ME c' o I I' → Q I' J) → f_X8_readRoof_L19 Q K m I J := by
  intro f
  induction f with
  | zero =>
    intro i m d I h9 _ _ D
    have := D.2.1.1
    omega
  | succ f ih =>
    intro i m d I h9 hfm S D hQ hE
    have d0 := D.2.1.1
    obtain ⟨m', rfl⟩ : ∃ m', m = m' + 1 := ⟨m - 1, by omega⟩
    show f_X8_readRoof_B19 _ _ _ I J
    refine m_number S.1 rfl rfl (by decide) (by decide) (fun k v ek I1 a1 f1 e13 l1 l2 lt => m_good a1 (q_f (by decide) ?_)) (fun c' o ek I' er => bad_good er (q_t rfl (bad_good er (q_t rfl (hE c' o (by show exB (spNum tx n 1 40 i) _ = _; rw [ek]; rfl) I' er)))))
    have es : spRows tx n (f + 1) i d = if dn d 0 = 6 then .error (-5, skp tx n i) else if isD (bt tx n (skp tx n k)) = true then spRows tx n f (skp tx n k) (layR d v) else .ok (skp tx n k, layR d v) := by
      show exB (spNum tx n 1 40 i) _ = _
      rw [ek]
      rfl
    rw [es] at hQ hE
    have z0 := skp_ok (tx := tx) (n := n) S.1.2.1
    have S1 := MS_mo S f1 (show i ≤ k by omega) a1
    have c0 := (D.1 0 (okc_lo (by decide))).1
    have e0 : I1 12 3 (0 : Int32).toNatClampNeg = nI (dn d 0) := by rw [S1.2.2.2.2.1]; exact c0
    have v0 : vp_in (0 : Int32) 1802 := vin 0 _ (by decide) (by decide) rfl
    refine ⟨v0, q_eq (dn d 0) 6 (by omega) (by decide) e0 rfl (fun h => m_report a1 _ e13 (by decide) (fun I' er _ _ => bad_good er (q_t rfl (hE _ _ (if_pos h) I' ((mF_mo f1).ME er))))) (fun h => m_good a1 (q_f (by decide) ⟨v0, m_layRow (dn d 0) e0 rfl (by omega) S1.2.2.2.2.1 ⟨v0, v0, fun I28 e28 => ?_⟩⟩))⟩
    rw [if_neg h] at hQ hE
    have i28 : I28 12 3 = layR d v := by
      rw [e28]
      refine (rI_same _ _ _ _).trans ?_
      show upd (rI I1 12 3 _ 12 3) 0 (rI I1 12 3 _ 12 3 0 + 1) = _
      rw [rI_same, upd_ot _ _ (show (0 : Nat) ≠ 36 + 45 * dn d 0 + 3 by omega), upd_ot _ _ (show (0 : Nat) ≠ 36 + 45 * dn d 0 by omega), c0, nlit 1, nI_add]
      rfl
    have o28 : ∀ r, r ≠ 3 → I28 12 r = I1 12 r := fun r hr => by rw [e28, sI_ro _ _ _ _ _ hr]; exact rI_ne (fun y => hr y.2)
    have f28 : ∀ q, I28 12 0 q = I1 12 0 q := fun q => by rw [o28 0 (by decide)]
    have F28 : mF I I28 := (mF_mo f1).trans ⟨fun b r m => by rw [e28]; unfold sI; rw [rI_ne (fun y => m ⟨y.1, Or.inr y.2⟩), rI_ne (fun y => m ⟨y.1, Or.inr y.2⟩)], fun q _ => f28 q⟩
    have D' := DW_row (v := v) D (by omega) l1 l2
    have S28 : MS tx n k (layR d v) sn hd g I28 := ⟨MA_keep a1 (f28 3) (f28 4) (f28 5) (o28 1 (by decide)), by rw [f28]; exact S1.2.1, by rw [f28]; exact S1.2.2.1, by rw [f28]; exact S1.2.2.2.1, i28, by rw [f28]; exact S1.2.2.2.2.2⟩
    refine m_ahead S28.1 (fun I2 a2 f2 _ => m_isDigit _ (MA_le S28.1 _) rfl ?_)
    have S2 := MS_mo S28 f2 (skp_ok (tx := tx) (n := n) S28.1.2.1).1.1 a2
    by_cases y : isD (bt tx n (skp tx n k)) = true
    · rw [if_pos y] at hQ hE
      rw [y]
      exact q_f (by decide) (ih (skp tx n k) m' (layR d v) I2 (by rw [lr_0n (by omega)]; omega) (by omega) S2 D' (fun k2 d2 e2 I' S' F' => hQ k2 d2 e2 I' S' ((F28.trans (mF_mo f2)).trans F')) (fun c' o e2 I' E' => hE c' o e2 I' ((F28.trans (mF_mo f2)).ME E')))
    · rw [if_neg y] at hQ hE
      rw [Bool.eq_false_iff.mpr y]
      exact q_t rfl (hQ _ _ rfl I2 S2 (F28.trans (mF_mo f2)) D' (by rw [lr_0n (by omega)]; omega))
theorem m_roof {I : MI} {J : MJ} {i : Nat} {d : SD} {Q : MI → MJ → Prop} (S : MS tx n i d sn hd g I) (D : DW d) (hd0 : dn d 0 = 0)
    (hQ : ∀ k d', spRoof tx n i d = .ok (k, d') → ∀ I', MS tx n k d' sn hd g I' → mF I I' → DW d' → 1 ≤ dn d' 0 → Q I' J) (hE : ∀ c o, spRoof tx n i d = .error (c, o) → ∀ I', ME c o I I' → Q I' J) : f_X8_readRoof I J Q := by
  have z0 := skp_ok (tx := tx) (n := n) S.1.2.1
  have r0 := rend_ok (tx := tx) (n := n) z0.1.2
  have bad : ∀ (c : Int32) (o : Nat) (I1 : MI), ME c o I I1 → spRoof tx n i d = .error (c, o) → f_X8_readRoof_J19 Q I1 J := fun c o I1 er e => ⟨1, by
    show f_X8_readRoof_B19 _ _ _ I1 J
    exact bad_number er (bad_good er (q_t rfl (bad_good er (q_t rfl (hE c o e I1 er)))))⟩
  unfold spRoof at hQ hE bad
  refine m_takeWord (w := 0) (by decide) S.1 (fun y I1 a1 f1 => q_f (by decide) ?_) (fun y I1 a1 f1 => q_t rfl (m_report a1 (skp tx n i) a1.2.2.2.1 (by decide) (fun I' er _ _ => bad _ _ I' ((mF_mo f1).ME er) ?_)))
  · have yl : isL (bt tx n (skp tx n i)) = true := by
      unfold runIs at y
      have h := (Bool.and_eq_true_iff.mp y).2
      have := of_decide_eq_true h 0 (by decide)
      rw [Nat.add_zero] at this
      rw [this]
      exact wLet 0 (by decide) 0 (by decide)
    have ek : spRun tx n i = .ok (rend tx n (skp tx n i)) := if_pos yl
    rw [ek, exB_ok, if_pos y] at hQ hE
    have S1 := MS_mo S f1 (by omega) a1
    refine ⟨7, m_rowsL 7 _ 7 d I1 (by omega) (Nat.le_refl _) S1 D (fun k' d' e I' S' F' D' h1 => ?_) (fun c o e I' E' => hE c o (by rw [e]; rfl) I' ((mF_mo f1).ME E'))⟩
    rw [e, exB_ok] at hQ hE
    have z' := skp_ok (tx := tx) (n := n) S'.1.2.1
    refine m_expect S'.1 rfl (by decide) (fun j ej I2 a2 f2 => hQ j d' (by rw [ej]; rfl) I2 (MS_mo S' f2 ?_ a2) (((mF_mo f1).trans F').trans (mF_mo f2)) D' h1) (fun c o ej I2 er => hE c o (by rw [ej]; rfl) I2 (((mF_mo f1).trans F').ME er))
    unfold spSign at ej
    split at ej
    · cases ej; omega
    · cases ej
  · by_cases yl : isL (bt tx n (skp tx n i)) = true
    · have ek : spRun tx n i = .ok (rend tx n (skp tx n i)) := if_pos yl
      rw [ek, exB_ok, y]
      rfl
    · have ek : spRun tx n i = .error (-2, skp tx n i) := if_neg yl
      rw [ek]
      rfl
end RW
