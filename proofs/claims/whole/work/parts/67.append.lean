/-! APPEND, on both sides -/
theorem tI_r (I : MI) {r : Nat} (h : r ≠ 0) : tI I 12 r = I 12 r := sI_ro I 12 0 0 0 h
theorem tI_i (I : MI) {i : Nat} (h : i ≠ 0) : tI I 12 0 i = I 12 0 i := sI_ot I 12 0 0 h
def bB (x : Int32) (j : Nat) : Int32 := ((x.toUInt32 >>> ((nI (24 - 8 * j)).toUInt32 &&& Int32.toUInt32 31)).toInt32) &&& (255 : Int32)
theorem and255 (x : Int32) : ∃ v, v < 256 ∧ (x &&& (255 : Int32)) = nI v := by
  refine ⟨(x.toBitVec &&& 255#32).toNat, ?_, ?_⟩
  · rw [BitVec.toNat_and]
    exact Nat.lt_of_le_of_lt Nat.and_le_right (by decide)
  · apply Int32.toBitVec_inj.mp
    rw [Int32.toBitVec_and]
    show x.toBitVec &&& 255#32 = BitVec.ofNat 32 (x.toBitVec &&& 255#32).toNat
    rw [BitVec.ofNat_toNat, BitVec.setWidth_eq]
theorem bv_sh (x : BitVec 32) (k : Nat) (hk : k ≤ 24) : (x.sshiftRight k) &&& 255#32 = (x >>> k) &&& 255#32 := by
  apply BitVec.eq_of_getLsbD_eq
  intro i hi
  rw [BitVec.getLsbD_and, BitVec.getLsbD_and]
  by_cases h8 : i < 8
  · rw [BitVec.getLsbD_sshiftRight, BitVec.getLsbD_ushiftRight]
    simp [show k + i < 32 by omega, show ¬ 32 ≤ i by omega, Nat.add_comm]
  · have : (255#32).getLsbD i = false := by
      rw [BitVec.getLsbD_ofNat, show (255 : Nat) = 2 ^ 8 - 1 by decide, Nat.testBit_two_pow_sub_one]
      simp [h8]
    rw [this, Bool.and_false, Bool.and_false]
theorem sh_amt : ∀ j, j < 4 → (nI (24 - 8 * j) &&& (31 : Int32)).toBitVec.smod 32 = BitVec.ofNat 32 (24 - 8 * j) ∧ ((nI (24 - 8 * j)).toUInt32 &&& Int32.toUInt32 31).toBitVec % 32 = BitVec.ofNat 32 (24 - 8 * j) := by decide +kernel
theorem bB_m (x : Int32) {j : Nat} (hj : j < 4) : ((x >>> (nI (24 - 8 * j) &&& 31)) &&& (255 : Int32)) = bB x j := by
  apply Int32.toBitVec_inj.mp
  unfold bB
  rw [Int32.toBitVec_and, Int32.toBitVec_and, Int32.toBitVec_shiftRight, (sh_amt j hj).1]
  have e : ((x.toUInt32 >>> ((nI (24 - 8 * j)).toUInt32 &&& Int32.toUInt32 31)).toInt32).toBitVec = x.toBitVec >>> (24 - 8 * j) := by
    show (x.toUInt32 >>> ((nI (24 - 8 * j)).toUInt32 &&& Int32.toUInt32 31)).toBitVec = _
    rw [UInt32.toBitVec_shiftRight, (sh_amt j hj).2, BitVec.ushiftRight_eq', BitVec.toNat_ofNat, Nat.mod_eq_of_lt (by omega)]
    rfl
  rw [e, BitVec.sshiftRight_eq', BitVec.toNat_ofNat, Nat.mod_eq_of_lt (by omega)]
  exact bv_sh _ _ (by omega)
/-- m bytes put behind n, in row 1 of a block; how many there are stands in a cell of its row 0 -/
def AP (b c : Nat) (f : Nat → Int32) (n m : Nat) (I I' : MI) : Prop := (∀ b' r, ¬ (b' = b ∧ (r = 0 ∨ r = 1)) → I' b' r = I b' r) ∧ I' b 0 c = nI (n + m) ∧ (∀ i, i ≠ c → I' b 0 i = I b 0 i) ∧ (∀ i, i < n → I' b 1 i = I b 1 i) ∧ ∀ j, j < m → I' b 1 (n + j) = f j
theorem AP.rfl {b c n : Nat} {f : Nat → Int32} {I : MI} (e : I b 0 c = nI n) : AP b c f n 0 I I := ⟨fun _ _ _ => Eq.refl _, e, fun _ _ => Eq.refl _, fun _ _ => Eq.refl _, fun _ h => absurd h (Nat.not_lt_zero _)⟩
theorem AP.put {b c n m : Nat} {f : Nat → Int32} {I I1 I2 I3 : MI} {v w : Int32} (h : AP b c f n m I I1) (e2 : I2 = sI I1 b 1 (n + m) v) (ev : v = f m) (e3 : I3 = sI I2 b 0 c w) (ew : w = nI (n + m + 1)) : AP b c f n (m + 1) I I3 := by
  obtain ⟨h1, h2, h3, h4, h5⟩ := h
  have r1 : I3 b 1 = upd (I1 b 1) (n + m) v := by rw [e3, sI_ro _ _ _ _ _ (by decide), e2]; exact rI_same _ _ _ _
  refine ⟨fun b' r q => ?_, ?_, fun i hi => ?_, fun i hi => ?_, fun j hj => ?_⟩
  · rw [e3, e2]
    unfold sI
    rw [rI_ne (fun z => q ⟨z.1, Or.inl z.2⟩), rI_ne (fun z => q ⟨z.1, Or.inr z.2⟩)]
    exact h1 b' r q
  · rw [e3, sI_at]; exact ew
  · rw [e3, sI_ot _ _ _ _ hi, e2, sI_ro _ _ _ _ _ (by decide)]; exact h3 i hi
  · rw [r1, upd_ot _ _ (by omega)]; exact h4 i hi
  · rw [r1]
    by_cases q : j = m
    · subst q; rw [upd_at]; exact ev
    · rw [upd_ot _ _ (by omega)]; exact h5 j (by omega)
def apF (x1 x2 x3 x4 x5 : Int32) (j : Nat) : Int32 := bB (if j < 4 then x1 else if j < 8 then x2 else if j < 12 then x3 else if j < 16 then x4 else x5) (j % 4)
section AC
variable {I : MI} {J : MJ}
theorem k_apB {x : Int32} {f : Nat → Int32} {n m : Nat} {I1 : MI} {Q : MI → MJ → Prop} (h : AP 11 1 f n m I I1) (hn : n + m + 4 ≤ 600) (hf : ∀ j, j < 4 → f (m + j) = bB x j) (hQ : ∀ I', AP 11 1 f n (m + 4) I I' → Q I' J) : f_X7_appendBytes x I1 J Q := by
  have st : ∀ (j k : Nat) (s : MI) (y : Int32) (K : MI → MJ → Prop), j < 4 → AP 11 1 f n (m + j) I s → y = nI (24 - 8 * j) → (∀ s2 y2, AP 11 1 f n (m + (j + 1)) I s2 → y2 = nI (24 - 8 * j) + (-8 : Int32) → f_X7_appendBytes_L3 x K k y2 s2 J) → f_X7_appendBytes_L3 x K (k + 1) y s J := by
    intro j k s y K hj hs ey g
    show f_X7_appendBytes_B3 _ _ _ _ s J
    have e1 : s 11 0 1 = nI (n + (m + j)) := hs.2.1
    have ny : ¬ y < (0 : Int32) := by
      rw [ey]
      exact fun q => Nat.not_lt_zero _ ((nI_ltI (b := 0) (by omega) (by decide)).mp q)
    refine q_f ny (q_f (by rw [e1]; exact nge (n := 600) (by omega) (by decide)) ⟨vin _ 600 (by omega) (by decide) e1, fun I8 e8 I9 e9 y2 ey2 => g I9 y2 ?_ (by rw [ey2, ey])⟩)
    rw [cln (by omega) e1] at e8
    refine hs.put e8 ?_ e9 ?_
    · rw [hf j hj, ey]; rfl
    · rw [e8, sI_ro _ _ _ _ _ (by decide), e1, nlit 1, nI_add]
  refine ⟨5, st 0 4 I1 24 _ (by decide) h rfl (fun s1 y1 a1 b1 => st 1 3 s1 y1 _ (by decide) a1 (b1.trans (by decide +kernel)) (fun s2 y2 a2 b2 => st 2 2 s2 y2 _ (by decide) a2 (b2.trans (by decide +kernel)) (fun s3 y3 a3 b3 => st 3 1 s3 y3 _ (by decide) a3 (b3.trans (by decide +kernel)) (fun s4 y4 a4 b4 => ?_))))⟩
  show f_X7_appendBytes_B3 _ _ _ _ s4 J
  exact q_t (by rw [b4]; decide +kernel) (hQ s4 a4)
theorem k_append {x1 x2 x3 x4 x5 : Int32} {n : Nat} {Q : Int32 → MI → MJ → Prop} (hn : n ≤ 600) (e : I 11 0 1 = nI n) (h0 : 600 < n + 20 → Q (-1) I J) (h1 : n + 20 ≤ 600 → ∀ I', AP 11 1 (apF x1 x2 x3 x4 x5) n 20 I I' → Q (nI (n + 20)) I' J) : f_X7_append x1 x2 x3 x4 x5 I J Q := by
  have e20 : I 11 0 1 + (20 : Int32) = nI (n + 20) := by rw [e, nlit 20, nI_add]
  refine q_le (n + 20) 600 (by omega) (by decide) e20 rfl (fun q => ?_) (fun q => h0 q)
  have d4 : ∀ m, m < 5 → ∀ j, j < 4 → (4 * m + j) % 4 = j := fun m _ j hj => by omega
  refine k_apB (m := 0) (f := apF x1 x2 x3 x4 x5) (AP.rfl e) (by omega) (fun j hj => ?_) (fun I1 a1 => k_apB (m := 4) a1 (by omega) (fun j hj => ?_) (fun I2 a2 => k_apB (m := 8) a2 (by omega) (fun j hj => ?_) (fun I3 a3 => k_apB (m := 12) a3 (by omega) (fun j hj => ?_) (fun I4 a4 => k_apB (m := 16) a4 (by omega) (fun j hj => ?_) (fun I5 a5 => ?_)))))
  · unfold apF; rw [if_pos (by omega), show (0 + j) % 4 = j by omega]
  · unfold apF; rw [if_neg (by omega), if_pos (by omega), show (4 + j) % 4 = j by omega]
  · unfold apF; rw [if_neg (by omega), if_neg (by omega), if_pos (by omega), show (8 + j) % 4 = j by omega]
  · unfold apF; rw [if_neg (by omega), if_neg (by omega), if_neg (by omega), if_pos (by omega), show (12 + j) % 4 = j by omega]
  · unfold apF; rw [if_neg (by omega), if_neg (by omega), if_neg (by omega), if_neg (by omega), show (16 + j) % 4 = j by omega]
  · show Q (I5 11 0 1) I5 J
    rw [a5.2.1]
    exact h1 q I5 a5
theorem ap_amt : ∀ i, i < 20 → ((24 : Int32) - ((8 : Int32) * (nI i - nI i / (4 : Int32) * (4 : Int32)))) = nI (24 - 8 * (i % 4)) := by decide +kernel
theorem m_append {x1 x2 x3 x4 x5 : Int32} {n : Nat} {Q : Int32 → MI → MJ → Prop} (hn : n ≤ 600) (e : I 12 0 2 = nI n) (h0 : 600 < n + 20 → Q (-1) (tI I) J) (h1 : n + 20 ≤ 600 → ∀ I', AP 12 2 (apF x1 x2 x3 x4 x5) n 20 (tI I) I' → Q (nI (n + 20)) I' J) : f_X8_append x1 x2 x3 x4 x5 I J Q := by
  intro I1 e1
  rw [← show I1 = tI I from e1] at h0 h1
  have e2 : I1 12 0 2 = nI n := by rw [e1, sI_ot _ _ _ _ (by decide)]; exact e
  have e20 : I1 12 0 2 + (20 : Int32) = nI (n + 20) := by rw [e2, nlit 20, nI_add]
  refine q_le (n + 20) 600 (by omega) (by decide) e20 rfl (fun q => ⟨21, ?_⟩) (fun q => h0 q)
  refine up_inv (fun m (s : MI) j => f_X8_append_L23 x1 x2 x3 x4 x5 _ m j s J) (fun i s => AP 12 2 (apF x1 x2 x3 x4 x5) n i I1 s) 20 (fun m s hs => ?_) (fun m s i hi hs ih => ?_) I1 (AP.rfl e2)
  · show f_X8_append_B23 _ _ _ _ _ _ _ _ s J
    refine q_t (Int32.le_refl _) ?_
    show Q (s 12 0 2) s J
    rw [hs.2.1]
    exact h1 q s hs
  · show f_X8_append_B23 _ _ _ _ _ _ _ _ s J
    have es : s 12 0 2 = nI (n + i) := hs.2.1
    have fin : ∀ w : Int32, apF x1 x2 x3 x4 x5 i = bB w (i % 4) → f_X8_append_J76 (fun (I_25 : MI) (J_26 : MJ) => Q (I_25 12 0 2) I_25 J_26) (f_X8_append_L23 x1 x2 x3 x4 x5 (fun (I_25 : MI) (J_26 : MJ) => Q (I_25 12 0 2) I_25 J_26) m) x1 x2 x3 x4 x5 (nI i) w s J := by
      intro w hw
      refine ⟨by decide, vin _ 600 (by omega) (by decide) es, fun I22 e22 I23 e23 j ej => ih I23 j ?_ (by rw [ej, nI_1])⟩
      rw [cln (by omega) es, ap_amt i hi, bB_m w (by omega)] at e22
      refine hs.put e22 hw.symm e23 ?_
      rw [e22, sI_ro _ _ _ _ _ (by decide), es, nlit 1, nI_add]
    refine q_f (nge hi (by decide)) (q_le 4 i (by decide) (by omega) rfl rfl (fun q4 => q_le 8 i (by decide) (by omega) rfl rfl (fun q8 => q_le 12 i (by decide) (by omega) rfl rfl (fun q12 => q_le 16 i (by decide) (by omega) rfl rfl (fun q16 => fin x5 ?_) (fun q16 => fin x4 ?_)) (fun q12 => fin x3 ?_)) (fun q8 => fin x2 ?_)) (fun q4 => fin x1 ?_))
    · unfold apF; rw [if_neg (by omega), if_neg (by omega), if_neg (by omega), if_neg (by omega)]
    · unfold apF; rw [if_neg (by omega), if_neg (by omega), if_neg (by omega), if_pos (by omega)]
    · unfold apF; rw [if_neg (by omega), if_neg (by omega), if_pos (by omega)]
    · unfold apF; rw [if_neg (by omega), if_pos (by omega)]
    · unfold apF; rw [if_pos (by omega)]
theorem b_append {x1 x2 x3 x4 x5 : Int32} (V : INV I J) : f_X7_append x1 x2 x3 x4 x5 I J (fun v I1 J1 => f_X8_append x1 x2 x3 x4 x5 I1 J1 (fun w I2 J2 => v = w ∧ INV I2 J2)) := by
  have V0 := V
  obtain ⟨⟨W, L, C⟩, ⟨c, nx, hc, hn, a1, a2, a3, H⟩, ⟨n, b1, b2, b3, b4⟩, e⟩ := V
  refine k_append b1 b2 (fun q => m_append b1 b3 (fun _ => ⟨rfl, INV_m V0 tI_m⟩) (fun z => absurd z (by omega))) (fun q I1 A1 => ?_)
  obtain ⟨p1, p2, p3, p4, p5⟩ := A1
  have i12 : I1 12 = I 12 := by funext r; exact p1 12 r (by omega)
  refine m_append b1 (by rw [i12]; exact b3) (fun z => absurd z (by omega)) (fun _ I2 A2 => ⟨rfl, ?_⟩)
  obtain ⟨m1, m2, m3, m4, m5⟩ := A2
  have T : mR I1 (tI I1) J J := tI_m
  have r12 : ∀ r, r ≠ 0 → r ≠ 1 → I2 12 r = I 12 r := fun r h0 h1 => by rw [m1 12 r (by omega), tI_r _ h0, i12]
  have f12 : ∀ i, i ≠ 0 → i ≠ 2 → I2 12 0 i = I 12 0 i := fun i h0 h2 => by rw [m3 i h2, tI_i _ h0, i12]
  have o12 : ∀ b, b ≠ 12 → I2 b = I1 b := fun b hb => by funext r; rw [m1 b r (fun z => hb z.1)]; exact congrFun (T.1 b hb) r
  have o11 : ∀ b, b ≠ 11 → b ≠ 12 → I2 b = I b := fun b h1 h2 => by rw [o12 b h2]; funext r; exact p1 b r (fun z => h1 z.1)
  have i11 : I2 11 = I1 11 := o12 11 (by decide)
  refine ⟨⟨?_, ?_, ?_⟩, ⟨c, nx, hc, hn, ?_, ?_, ?_, fun k hk => ?_⟩, ⟨n + 20, q, ?_, m2, fun i hi => ?_⟩, ?_⟩
  · rw [r12 2 (by decide) (by decide)]; exact W
  · rw [r12 2 (by decide) (by decide)]; exact L
  · rw [r12 2 (by decide) (by decide)]; exact RC_blk C (o11 0 (by decide) (by decide)) (Eq.refl _)
  · rw [f12 12 (by decide) (by decide)]; exact a1
  · rw [i11, p1 11 2 (by decide)]; exact a2
  · rw [i11, p1 11 2 (by decide)]; exact a3
  · rw [r12 (6 + k) (by omega) (by omega)]
    have z := H k hk
    have lt : (nx + 8 - c + k) % 8 < 8 := Nat.mod_lt _ (by decide)
    exact ⟨z.1, z.2.1, RC_blk z.2.2 (o11 _ (by omega) (by omega)) (Eq.refl _)⟩
  · rw [i11]; exact p2
  · by_cases y : i < n
    · rw [i11, p4 i y, m4 i y, T.2.1, i12]
      exact b4 i y
    · have g5 := p5 (i - n) (by omega)
      have g6 := m5 (i - n) (by omega)
      rw [show n + (i - n) = i by omega] at g5 g6
      rw [i11, g5, g6]
      obtain ⟨v, hv, ev⟩ := and255 (((if i - n < 4 then x1 else if i - n < 8 then x2 else if i - n < 12 then x3 else if i - n < 16 then x4 else x5).toUInt32 >>> ((nI (24 - 8 * ((i - n) % 4))).toUInt32 &&& Int32.toUInt32 31)).toInt32)
      exact ⟨v, hv, ev, ev⟩
  · rw [i11, p3 2 (by decide), f12 7 (by decide) (by decide)]
    exact e
end AC
