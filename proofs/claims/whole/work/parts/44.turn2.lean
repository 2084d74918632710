/-! THE END OF A TURN: both machines -/
theorem e00 (n : Nat) : nI n + 0 = nI n := nI_add n 0
/-- alike outside of a block -/
def oB (b : Nat) (I I' : MI) : Prop := ∀ b' r, (b' ≠ b ∨ r = 2 ∨ r = 5) → I' b' r = I b' r
theorem oB.rfl {b : Nat} {I : MI} : oB b I I := fun _ _ _ => Eq.refl _
theorem oB.trans {b : Nat} {I I' I'' : MI} (h : oB b I I') (g : oB b I' I'') : oB b I I'' := fun b' r q => (g b' r q).trans (h b' r q)
theorem oB.put {b r i : Nat} {v : Int32} {I : MI} (h : r = 0 ∨ r = 14) : oB b I (sI I b r i v) := fun b' r' q => by unfold sI; exact rI_ne (fun z => by omega)
theorem sI_ro (I : MI) (b r i : Nat) (v : Int32) {r' : Nat} (h : r' ≠ r) : sI I b r i v b r' = I b r' := by unfold sI; exact rI_ne (fun z => h z.2)
section NM
variable {I : MI} {J : MJ}
theorem m_nextTurn {Q : MI → MJ → Prop} (W : WF (I 12 2)) (h : Q (rI I 12 2 (dNext (I 12 2))) J) : f_X8_nextTurn I J Q := by
  have h4 := W.2.1.2.1
  have ht := wf_tp W
  refine ⟨vin 5 _ (by decide) (by decide) rfl, vin 1 _ (by decide) (by decide) rfl, by rw [c1 W]; exact nI_ne0 (by omega) (by omega), vin 5 _ (by decide) (by decide) rfl, fun I5 e5 => ?_⟩
  have e : I5 = rI I 12 2 (dNext (I 12 2)) := by
    rw [e5, c1 W, c5 W, tn_next _ (by omega) _ ht]
    rfl
  rw [e]
  exact h
theorem m_pay {K : MI → MJ → Prop} (W : WF (I 12 2)) (h : K (rI I 12 2 (payN (I 12 2) (dn (I 12 2) 0))) J) : f_X8_endGame_L10 K (dn (I 12 2) 0 + 1) 0 I J := by
  have h6 := wf_rows W
  have key := up_inv (fun m (s : MI) j => f_X8_endGame_L10 K m j s J) (fun i s => s = rI I 12 2 (payN (I 12 2) i)) (dn (I 12 2) 0) (fun m s hs => ?_) (fun m s i hi hs ih => ?_) I (rI_id I 12 2).symm
  · exact key
  · show f_X8_endGame_B10 _ _ _ s J
    have o := payN_ok W (dn (I 12 2) 0) h6
    have hs2 : s 12 2 = payN (I 12 2) (dn (I 12 2) 0) := by rw [hs, rI_same]
    have W2 : WF (s 12 2) := by rw [hs2]; exact o.1
    have e0 : dn (s 12 2) 0 = dn (I 12 2) 0 := by rw [hs2]; exact congrArg Int32.toNatClampNeg (o.2 0 (fun p _ => by show 0 ≠ 306 + 74 * p; omega))
    exact ⟨vin 0 _ (by decide) (by decide) rfl, q_t (by rw [c0 W2, e0]; exact Int32.le_refl _) (by rw [hs]; exact h)⟩
  · show f_X8_endGame_B10 _ _ _ s J
    have o := payN_ok W i (by omega)
    have hs2 : s 12 2 = payN (I 12 2) i := by rw [hs, rI_same]
    have W2 : WF (s 12 2) := by rw [hs2]; exact o.1
    have e0 : dn (s 12 2) 0 = dn (I 12 2) 0 := by rw [hs2]; exact congrArg Int32.toNatClampNeg (o.2 0 (fun p _ => by show 0 ≠ 306 + 74 * p; omega))
    have i6 : i < 6 := by omega
    have wr := W2.2.2.1 i i6
    have stay (q : pay1 (s 12 2) i = s 12 2) : s = rI I 12 2 (payN (I 12 2) (i + 1)) := by
      show s = rI I 12 2 (pay1 (payN (I 12 2) i) i)
      rw [← hs2, q, hs2]; exact hs
    refine ⟨vin 0 _ (by decide) (by decide) rfl, q_f (by rw [c0 W2, e0]; exact nge hi (by omega)) (m_ofRow i 3 rfl rfl i6 (by decide) ⟨fun q j ej => ih s j (stay ?_) (by rw [ej, nI_1]), fun q => m_free W2 i rfl i6 (q_le (mFree (s 12 2) i) 0 (by show _ - _ < _; omega) (by decide) rfl rfl (fun q2 j ej => ih s j (stay ?_) (by rw [ej, nI_1])) (fun q2 => ?_))⟩)⟩
    · unfold pay1; rw [if_pos q]
    · unfold pay1; rw [if_neg q, if_pos (show mFree (s 12 2) i = 0 by omega)]
    · have ow := own_lt W2 i6 q
      have p4 := wf_pls W2
      have va : vp_in (nI (pA (dn (s 12 2) (rA i + 3))) + 0) 1802 := vin (pA (dn (s 12 2) (rA i + 3))) _ (by show 306 + 74 * _ < 1802; omega) (by decide) (e00 _)
      refine m_ofRow i 3 rfl rfl i6 (by decide) (m_playerAt _ ow.1 ⟨va, m_ofRow i 1 rfl rfl i6 (by decide) ⟨by decide, va, fun s2 es2 j ej => ih s2 j ?_ (by rw [ej, nI_1])⟩⟩)
      rw [cln (show pA (dn (s 12 2) (rA i + 3)) < 2 ^ 31 by show 306 + 74 * _ < _; omega) (e00 _)] at es2
      have e : pay1 (s 12 2) i = upd (s 12 2) (pA (dn (s 12 2) (rA i + 3))) (s 12 2 (pA (dn (s 12 2) (rA i + 3))) + s 12 2 (rA i + 1) / 2) := by
        unfold pay1; rw [if_neg q, if_neg (show ¬ mFree (s 12 2) i = 0 by omega)]
      rw [es2]
      show rI s 12 2 (upd (s 12 2) (pA (dn (s 12 2) (rA i + 3))) (s 12 2 (pA (dn (s 12 2) (rA i + 3))) + s 12 2 (rA i + 1) / 2)) = rI I 12 2 (pay1 (payN (I 12 2) i) i)
      rw [← e, ← hs2]
      generalize pay1 (s 12 2) i = z
      rw [hs, rI_rI]
theorem m_endGame {Q : MI → MJ → Prop} (W : WF (I 12 2)) (h : Q (rI I 12 2 (dEnd (I 12 2))) J) : f_X8_endGame I J Q := by
  refine ⟨vin 6 _ (by decide) (by decide) rfl, fun I2 e2 => ?_⟩
  have es : I2 12 2 = upd (I 12 2) 6 1 := by rw [e2]; exact rI_same _ _ _ _
  have W2 : WF (I2 12 2) := by rw [es]; exact WF_over W
  refine ⟨dn (I2 12 2) 0 + 1, m_pay W2 ?_⟩
  have e0 : dn (I2 12 2) 0 = dn (I 12 2) 0 := by rw [es]; unfold dn; rw [upd_ot _ _ (by decide)]
  rw [e0, es, e2]
  show Q (rI (rI I 12 2 _) 12 2 (dEnd (I 12 2))) J
  rw [rI_rI]
  exact h
theorem m_passNow {Q : MI → MJ → Prop} (W : WF (I 12 2)) (h : Q (rI I 12 2 (if dn (I 12 2) 7 + 1 = dn (I 12 2) 1 then dEnd (upd (I 12 2) 7 (nI (dn (I 12 2) 7 + 1))) else dNext (upd (I 12 2) 7 (nI (dn (I 12 2) 7 + 1))))) J) (hq : dn (I 12 2) 7 < dn (I 12 2) 1) : f_X8_passNow I J Q := by
  have h4 := W.2.1.2.1
  have v7 : vp_in (7 : Int32) 1802 := vin 7 _ (by decide) (by decide) rfl
  have c7 : I 12 2 (7 : Int32).toNatClampNeg = nI (dn (I 12 2) 7) := wf_c W (okc_lo (i := 7) (by decide))
  refine ⟨v7, v7, fun I3 e3 => ⟨v7, vin 1 _ (by decide) (by decide) rfl, ?_⟩⟩
  have e3' : I3 = rI I 12 2 (upd (I 12 2) 7 (nI (dn (I 12 2) 7 + 1))) := by rw [e3, c7, nI_1]; rfl
  have es : I3 12 2 = upd (I 12 2) 7 (nI (dn (I 12 2) 7 + 1)) := by rw [e3']; exact rI_same _ _ _ _
  have W3 : WF (I3 12 2) := by
    rw [es]
    exact WF_ch W (fun i c => upd_ot _ _ c.2.2.1) (dn (I 12 2) 5) (dn (I 12 2) 6) (dn (I 12 2) 7 + 1) ((upd_ot _ _ (by decide)).trans (wf_c W (okc_lo (by decide)))) (wf_tp W) ((upd_ot _ _ (by decide)).trans (wf_c W (okc_lo (by decide)))) W.2.1.2.2.2.2.2.2.1 (upd_at _ _ _) hq
  have k7 : I3 12 2 (7 : Int32).toNatClampNeg = nI (dn (I 12 2) 7 + 1) := by rw [es]; exact upd_at _ _ _
  have k1 : I3 12 2 (1 : Int32).toNatClampNeg = nI (dn (I 12 2) 1) := by rw [es]; exact (upd_ot _ _ (by decide)).trans (c1 W)
  refine q_eq (dn (I 12 2) 7 + 1) (dn (I 12 2) 1) (by omega) (by omega) k7 k1 (fun q => m_endGame W3 ?_) (fun q => m_nextTurn W3 ?_)
  · rw [if_pos q] at h
    rw [es, e3', rI_rI]; exact h
  · rw [if_neg q] at h
    rw [es, e3', rI_rI]; exact h
end NM
section NG
variable {I : MI} {J : MJ} {d : Nat → Int32} {b : Nat}
theorem g_payOwners {Q : MI → MJ → Prop} (W : WF d) (C : RC I J b d) (h : ∀ I', RC I' J b (payN d (dn d 0)) → oB b I I' → Q I' J) : f_X1_payOwners b I J Q := by
  have h6 := wf_rows W
  refine ⟨dn d 0 + 1, up_inv (fun m (s : MI) j => f_X1_payOwners_L2 b _ m j s J) (fun i s => RC s J b (payN d i) ∧ oB b I s) (dn d 0) (fun m s hs => ?_) (fun m s i hi hs ih => ?_) I ⟨C, oB.rfl⟩⟩
  · show f_X1_payOwners_B2 _ _ _ _ s J
    have o := payN_ok W (dn d 0) h6
    have e0 : dn (payN d (dn d 0)) 0 = dn d 0 := congrArg Int32.toNatClampNeg (o.2 0 (fun p _ => by show 0 ≠ 306 + 74 * p; omega))
    exact q_t (by rw [e_rows o.1 hs.1, e0]; exact Int32.le_refl _) (h s hs.1 hs.2)
  · show f_X1_payOwners_B2 _ _ _ _ s J
    have o := payN_ok W i (by omega)
    obtain ⟨C2, g2⟩ := hs
    have W2 := o.1
    have e0 : dn (payN d i) 0 = dn d 0 := congrArg Int32.toNatClampNeg (o.2 0 (fun p _ => by show 0 ≠ 306 + 74 * p; omega))
    have e1 : dn (payN d i) 1 = dn d 1 := congrArg Int32.toNatClampNeg (o.2 1 (fun p _ => by show 1 ≠ 306 + 74 * p; omega))
    have nx : payN d (i + 1) = pay1 (payN d i) i := rfl
    generalize payN d i = e at C2 W2 e0 e1 nx
    have i6 : i < 6 := by omega
    have wr := W2.2.2.1 i i6
    have c := C2.2.2.1 i (by omega)
    have v6 : vp_in (nI i) 6 := vin i 6 (by omega) (by decide) rfl
    refine q_f (by rw [e_rows W2 C2, e0]; exact nge hi (by omega)) ⟨v6, ?_⟩
    rw [nI_clamp (show i < 2 ^ 31 by omega), c.2.2.2.1]
    refine ⟨fun q j ej => ih s j ⟨?_, g2⟩ (by rw [ej, nI_1]), fun q => g_free W2 C2 i rfl (by omega) (q_le (mFree e i) 0 (by show _ - _ < _; omega) (by decide) rfl rfl (fun q2 j ej => ih s j ⟨?_, g2⟩ (by rw [ej, nI_1])) (fun q2 => ?_))⟩
    · rw [nx]; unfold pay1; rw [if_pos q]; exact C2
    · rw [nx]; unfold pay1; rw [if_neg q, if_pos (show mFree e i = 0 by omega)]; exact C2
    · have ow := own_lt W2 i6 q
      have p4 := wf_pls W2
      have v4 : vp_in (s b 11 i) 4 := by
        rw [c.2.2.2.1]
        exact vin (dn e (rA i + 3)) 4 (by omega) (by decide) ow.1
      refine ⟨v6, v4, v6, by decide, v4, fun s2 es2 j ej => ih s2 j ⟨?_, g2.trans (by rw [es2]; exact oB.put (Or.inr (Eq.refl _)))⟩ (by rw [ej, nI_1])⟩
      have en : (e (rA i + 3)).toNatClampNeg = dn e (rA i + 3) := rfl
      rw [c.2.2.2.1, en, c.2.1, (C2.2.2.2.1 _ ow.2).2.1] at es2
      have ep : pay1 e i = upd e (pA (dn e (rA i + 3))) (e (pA (dn e (rA i + 3))) + e (rA i + 1) / 2) := by
        unfold pay1; rw [if_neg q, if_neg (show ¬ mFree e i = 0 by omega)]
      have g := pay1_rest W2 i6
      rw [nx]
      refine RC_ch W2 C2 (fun k ck => g k ck.2.2.2) (fun r _ h14 => by rw [es2]; exact sI_ro _ _ _ _ _ h14) ?_ ?_ ?_ (fun p hp => ?_)
      · rw [es2, sI_ro _ _ _ _ _ (by decide), g 5 (fun p _ => by show 5 ≠ 306 + 74 * p; omega)]; exact C2.1.2.2.2.2.2.1
      · rw [es2, sI_ro _ _ _ _ _ (by decide), g 6 (fun p _ => by show 6 ≠ 306 + 74 * p; omega)]; exact C2.1.2.2.2.2.2.2.1
      · rw [es2, sI_ro _ _ _ _ _ (by decide), g 7 (fun p _ => by show 7 ≠ 306 + 74 * p; omega)]; exact C2.1.2.2.2.2.2.2.2
      · rw [es2, ep]
        by_cases z : p = dn e (rA i + 3)
        · subst z; rw [sI_at, upd_at]
        · rw [sI_ot _ _ _ _ z, upd_ot _ _ (by show 306 + 74 * p ≠ 306 + 74 * _; omega)]
          exact (C2.2.2.2.1 p hp).2.1
theorem g_endTurn {x : Int32} {Q : MI → MJ → Prop} (W : WF d) (C : RC I J b d) (f : Bool) (ex : x = if f then 1 else 0) (h : ∀ I', RC I' J b (if f then dEnd d else dNext d) → oB b I I' → Q I' J) : f_X1_endTurn b x I J Q := by
  have h4 := W.2.1.2.1
  have ht := wf_tp W
  have pt : ∀ {i p : Nat}, i < 36 → i ≠ pA p := fun hi => by show _ ≠ 306 + 74 * _; omega
  cases f with
  | false =>
    have h' : ∀ I', RC I' J b (dNext d) → oB b I I' → Q I' J := h
    have go : ∀ I', I' = sI I b 0 9 (nI (if dn d 5 + 1 < dn d 1 then dn d 5 + 1 else 0)) → Q I' J := by
      intro I' e
      refine h' I' (RC_ch W C (fun i c => upd_ot _ _ c.1) (fun r h0 _ => by rw [e]; exact sI_ro _ _ _ _ _ h0) ?_ ?_ ?_ (fun p hp => ?_)) (by rw [e]; exact oB.put (Or.inl (Eq.refl _)))
      · rw [e, sI_at]; exact (upd_at _ _ _).symm
      · rw [e, sI_ot _ _ _ _ (by decide)]; exact C.1.2.2.2.2.2.2.1.trans (upd_ot _ _ (by decide)).symm
      · rw [e, sI_ot _ _ _ _ (by decide)]; exact C.1.2.2.2.2.2.2.2.trans (upd_ot _ _ (by decide)).symm
      · rw [e, sI_ro _ _ _ _ _ (by decide)]; exact (C.2.2.2.1 p hp).2.1.trans (upd_ot _ _ (by show 306 + 74 * p ≠ 5; omega)).symm
    refine q_t (by rw [ex]; rfl) ?_
    rw [e_turn W C, e_pls W C, nI_1]
    refine q_le (dn d 1) (dn d 5 + 1) (by omega) (by omega) rfl rfl (fun q I' e => go I' ?_) (fun q I' e => go I' ?_)
    · rw [if_neg (by omega)]; exact e
    · rw [if_pos q]; exact e
  | true =>
    have h' : ∀ I', RC I' J b (dEnd d) → oB b I I' → Q I' J := h
    refine q_f (by rw [ex]; decide) (fun I5 e5 => ?_)
    have C5 : RC I5 J b (upd d 6 1) := by
      refine RC_ch W C (fun i c => upd_ot _ _ c.2.1) (fun r h0 _ => by rw [e5]; exact sI_ro _ _ _ _ _ h0) ?_ ?_ ?_ (fun p hp => ?_)
      · rw [e5, sI_ot _ _ _ _ (by decide)]; exact C.1.2.2.2.2.2.1.trans (upd_ot _ _ (by decide)).symm
      · rw [e5, sI_at]; exact (upd_at _ _ _).symm
      · rw [e5, sI_ot _ _ _ _ (by decide)]; exact C.1.2.2.2.2.2.2.2.trans (upd_ot _ _ (by decide)).symm
      · rw [e5, sI_ro _ _ _ _ _ (by decide)]; exact (C.2.2.2.1 p hp).2.1.trans (upd_ot _ _ (by show 306 + 74 * p ≠ 6; omega)).symm
    refine g_payOwners (WF_over W) C5 (fun I' C' g => h' I' ?_ ?_)
    · have e0 : dn (upd d 6 1) 0 = dn d 0 := by unfold dn; rw [upd_ot _ _ (by decide)]
      rw [e0] at C'
      exact C'
    · exact (show oB b I I5 by rw [e5]; exact oB.put (Or.inl (Eq.refl _))).trans g
end NG
