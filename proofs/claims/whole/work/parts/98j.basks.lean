/-! THE CALLS THAT ASK AND MAY THROW: both answers, and what holds behind them -/
/-- what the law asks behind both calls: k was thrown, and with nothing thrown its row holds the model's answer -/
def POST (k : Int32) : Int32 → MI → MJ → Prop := fun w I2 J2 => I2 12 0 0 = k ∧ (k = 0 → J2 13 0 0 = w.toInt64) ∧ INV I2 J2
def PSTb (k : Int32) : Int32 → MI → MJ → Prop := fun w I2 J2 => I2 12 0 0 = k ∧ (k = 0 → J2 13 0 0 = if w = 0 then 0 else 1) ∧ INV I2 J2
theorem post_of {v w : Int32} {I3 : MI} {J2 J3 : MJ} (e : J2 13 0 0 = v.toInt64) (h : I3 12 0 0 = 0 ∧ v = w ∧ INV I3 J3 ∧ J3 13 = J2 13) : POST 0 w I3 J3 := ⟨h.1, fun _ => by rw [h.2.2.2, e, h.2.1], h.2.2.1⟩
theorem pstb_of {v w : Int32} {I3 : MI} {J2 J3 : MJ} (e : J2 13 0 0 = if v = 0 then 0 else 1) (h : I3 12 0 0 = 0 ∧ v = w ∧ INV I3 J3 ∧ J3 13 = J2 13) : PSTb 0 w I3 J3 := ⟨h.1, fun _ => by rw [h.2.2.2, e, h.2.1], h.2.2.1⟩
theorem bad_of {n : Nat} {w : Int32} {I3 : MI} {J3 : MJ} (hn : ¬ nI n = 0) (h : I3 12 0 0 = nI n ∧ INV I3 J3) : POST (nI n) w I3 J3 := ⟨h.1, fun z => absurd z hn, h.2⟩
theorem badb_of {n : Nat} {w : Int32} {I3 : MI} {J3 : MJ} (hn : ¬ nI n = 0) (h : I3 12 0 0 = nI n ∧ INV I3 J3) : PSTb (nI n) w I3 J3 := ⟨h.1, fun z => absurd z hn, h.2⟩
/-- the exceptions that a call tells, in the order in which they are caught -/
def XR (ks : List Nat) (M : MI → MJ → (Int32 → MI → MJ → Prop) → Prop) : Nat → MI → MJ → Prop := fun k I1 J1 => ∃ t, ks[t]? = some k ∧ M I1 J1 (POST (nI (t + 1)))
/-- alike outside of the law's row -/
abbrev J13 (J J2 : MJ) : Prop := ∀ b, b ≠ 13 → J2 b = J b
theorem INV_13 {I : MI} {J J2 : MJ} (V : INV I J) (e : J13 J J2) : INV I J2 := by
  obtain ⟨⟨W, L, C⟩, ⟨c, nx, hc, hn, a1, a2, a3, H⟩, B, e0⟩ := V
  refine ⟨⟨W, L, RC_blk C rfl (e 0 (by decide))⟩, ⟨c, nx, hc, hn, a1, a2, a3, fun k hk => ?_⟩, B, e0⟩
  have lt : (nx + 8 - c + k) % 8 < 8 := Nat.mod_lt _ (by decide)
  exact ⟨(H k hk).1, (H k hk).2.1, RC_blk (H k hk).2.2 rfl (e _ (by omega))⟩
/-- the model's answer is the class', also when the law has written its row in between -/
abbrev AG (M : MI → MJ → (Int32 → MI → MJ → Prop) → Prop) : Int32 → MI → MJ → Prop := fun v I1 J1 => ∀ J2, J13 J1 J2 → J2 13 0 0 = v.toInt64 → M I1 J2 (POST 0)
abbrev AGb (M : MI → MJ → (Int32 → MI → MJ → Prop) → Prop) : Int32 → MI → MJ → Prop := fun v I1 J1 => ∀ J2, J13 J1 J2 → (J2 13 0 0 = if v = 0 then 0 else 1) → M I1 J2 (PSTb 0)
def XRb (ks : List Nat) (M : MI → MJ → (Int32 → MI → MJ → Prop) → Prop) : Nat → MI → MJ → Prop := fun k I1 J1 => ∃ t, ks[t]? = some k ∧ M I1 J1 (PSTb (nI (t + 1)))
theorem nij {a b : Nat} {x : Int32} (h1 : x = nI a) (h2 : x = nI b) (ha : a < 2 ^ 31) (hb : b < 2 ^ 31) : a = b := (nI_eq ha hb).mp (h1.symm.trans h2)
theorem c_chkL {T F : Prop} {x y : Int32} {n : Nat} (hn : n < 2 ^ 31) (ey : y = nI n) (f : ∀ k, k < n → x = nI k → F) (g : (∀ k, k < n → x ≠ nI k) → T) : (x < 0 → T) ∧ (¬ x < 0 → ((y ≤ x → T) ∧ (¬ y ≤ x → F))) := by
  have h := c_chk (T := T) (F := F) hn ey f g
  exact ⟨h.1, fun w => ⟨fun q => (h.2 w).2 (Int32.not_lt.mpr q), fun q => (h.2 w).1 (Int32.not_le.mp q)⟩⟩
section BK
variable {I : MI} {J : MJ} {d : Nat → Int32}
theorem k_row {x : Int32} {Q : MI → MJ → Prop} {X : Nat → MI → MJ → Prop} (W : WF d) (C : RC I J 0 d) (h : ∀ r, r < dn d 0 → x = nI r → Q I J) (g : (∀ r, r < dn d 0 → x ≠ nI r) → X 1 I J) : f_X7_checkRow x I J Q X := by
  have b6 := wf_rows W
  exact c_chk (by omega) (e_rows W C) h g
theorem k_player {x : Int32} {Q : MI → MJ → Prop} {X : Nat → MI → MJ → Prop} (W : WF d) (C : RC I J 0 d) (h : ∀ p, p < dn d 1 → x = nI p → Q I J) (g : (∀ p, p < dn d 1 → x ≠ nI p) → X 1 I J) : f_X7_checkPlayer x I J Q X := by
  have b4 := wf_pls W
  exact c_chk (by omega) (e_pls W C) h g
theorem k_place {x y : Int32} {p : Nat} {Q : MI → MJ → Prop} {X : Nat → MI → MJ → Prop} (W : WF d) (C : RC I J 0 d) (ex : x = nI p) (hp : p < dn d 1) (h : ∀ k, k < mMany d p → y = nI k → Q I J) (g : (∀ k, k < mMany d p → y ≠ nI k) → X 1 I J) : f_X7_checkPlace x y I J Q X := by
  have b4 := wf_pls W
  have m8 := (W.2.2.2 p (by omega)).1
  have z := c_chk (T := X 1 I J) (F := Q I J) (x := y) (y := I 0 13 x.toNatClampNeg) (n := mMany d p) (by omega) (by rw [cln (by omega) ex]; exact e_many W C hp) h g
  exact ⟨z.1, fun w => ⟨vin p 4 (by omega) (by decide) ex, z.2 w⟩⟩
end BK
section BQ
variable {I : MI} {J : MJ}
theorem b_state {x : Int32} (V : INV I J) : f_X7_state x I J (AG (f_X8_state x)) (XR [0] (f_X8_state x)) := by
  obtain ⟨⟨W, Lv, C⟩, -⟩ := id V
  refine c_chk (n := 12) (by decide) rfl (fun w hw ew => g_stateNumber W C w ew hw (fun J2 e2 e3 => mc_state W (fun w' hw' ew' I' t => post_of e3 ⟨t.2, by rw [nij ew ew' (by omega) (by omega)], INV_m (INV_13 V e2) t.1, t.1.2.2.2.2.2 13 (by decide)⟩) (fun z => absurd ew (z w hw)))) (fun z => ⟨0, rfl, mc_state W (fun w hw ew => absurd ew (z w hw)) (fun _ I' t => bad_of (by decide +kernel) ⟨t.2, INV_m V t.1⟩)⟩)
theorem b_row {x y : Int32} (V : INV I J) : f_X7_row x y I J (AG (f_X8_row x y)) (XR [1, 0] (f_X8_row x y)) := by
  obtain ⟨⟨W, Lv, C⟩, -⟩ := id V
  have b6 := wf_rows W
  refine k_row W C (fun r hr er => ?_) (fun z => ⟨0, rfl, mc_row W (fun r w hr er => absurd er (z r hr)) (fun _ I' t => bad_of (by decide +kernel) ⟨t.2, INV_m V t.1⟩) (fun r hr er => absurd er (z r hr))⟩)
  refine c_chk (n := 4) (by decide) rfl (fun w hw ew => g_rowNumber W C r w er ew hr hw (fun J2 e2 e3 => mc_row W (fun r' w' hr' er' hw' ew' I' t => post_of e3 ⟨t.2, by rw [nij er er' (by omega) (by omega), nij ew ew' (by omega) (by omega)], INV_m (INV_13 V e2) t.1, t.1.2.2.2.2.2 13 (by decide)⟩) (fun z => absurd er (z r hr)) (fun r' hr' er' z => absurd ew (z w hw)))) (fun z => ⟨1, rfl, mc_row W (fun r' w hr' er' hw ew => absurd ew (z w hw)) (fun z2 => absurd er (z2 r hr)) (fun r' hr' er' _ I' t => bad_of (by decide +kernel) ⟨t.2, INV_m V t.1⟩)⟩)
theorem b_player {x y : Int32} (V : INV I J) : f_X7_player x y I J (AG (f_X8_player x y)) (XR [1, 0] (f_X8_player x y)) := by
  obtain ⟨⟨W, Lv, C⟩, -⟩ := id V
  have b4 := wf_pls W
  refine k_player W C (fun r hr er => ?_) (fun z => ⟨0, rfl, mc_player W (fun r w hr er => absurd er (z r hr)) (fun _ I' t => bad_of (by decide +kernel) ⟨t.2, INV_m V t.1⟩) (fun r hr er => absurd er (z r hr))⟩)
  refine c_chk (n := 4) (by decide) rfl (fun w hw ew => g_playerNumber W C r w er ew hr hw (fun J2 e2 e3 => mc_player W (fun r' w' hr' er' hw' ew' I' t => post_of e3 ⟨t.2, by rw [nij er er' (by omega) (by omega), nij ew ew' (by omega) (by omega)], INV_m (INV_13 V e2) t.1, t.1.2.2.2.2.2 13 (by decide)⟩) (fun z => absurd er (z r hr)) (fun r' hr' er' z => absurd ew (z w hw)))) (fun z => ⟨1, rfl, mc_player W (fun r' w hr' er' hw ew => absurd ew (z w hw)) (fun z2 => absurd er (z2 r hr)) (fun r' hr' er' _ I' t => bad_of (by decide +kernel) ⟨t.2, INV_m V t.1⟩)⟩)
theorem b_alike {x y : Int32} (V : INV I J) : f_X7_alike x y I J (AGb (f_X8_alike x y)) (XRb [0] (f_X8_alike x y)) := by
  obtain ⟨⟨W, Lv, C⟩, -⟩ := id V
  refine c_chkL (n := 26) (by decide) rfl (fun a ha ea => ?_) (fun z => ⟨0, rfl, mc_alike W (fun a c ha ea => absurd ea (z a ha)) (fun _ I' t => badb_of (by decide +kernel) ⟨t.2, INV_m V t.1⟩)⟩)
  refine c_chk (n := 26) (by decide) rfl (fun c hc ec => ?_) (fun z => ⟨0, rfl, mc_alike W (fun a c ha ea hc ec => absurd ec (z c hc)) (fun _ I' t => badb_of (by decide +kernel) ⟨t.2, INV_m V t.1⟩)⟩)
  have e1 : x + (1 : Int32) = nI (a + 1) := by rw [ea, nlit 1, nI_add]
  have e2 : y + (1 : Int32) = nI (c + 1) := by rw [ec, nlit 1, nI_add]
  refine ⟨vin (a + 1) 32 (by omega) (by decide) e1, vin (c + 1) 32 (by omega) (by decide) e2, ?_⟩
  rw [cln (by omega) e1, cln (by omega) e2]
  have G := C.2.1 a c ha hc
  have fin : ∀ v : Int32, v = (if alk (I 12 2) a c then 1 else 0) → AGb (f_X8_alike x y) v I J := fun v ev J2 e2 e3 => mc_alike W (fun a' c' ha' ea' hc' ec' I' t => pstb_of e3 ⟨t.2, by rw [ev, nij ea ea' (by omega) (by omega), nij ec ec' (by omega) (by omega)], INV_m (INV_13 V e2) t.1, t.1.2.2.2.2.2 13 (by decide)⟩) (fun z => z.elim (fun z => absurd ea (z a ha)) (fun z => absurd ec (z c hc)))
  exact ⟨fun q => fin 1 (by rw [if_pos (G.mp q)]), fun q => fin 0 (by rw [if_neg (fun w => q (G.mpr w))])⟩
theorem b_rhyme {x y u : Int32} (V : INV I J) : f_X7_rhyme x y u I J (AG (f_X8_rhyme x y u)) (XR [1] (f_X8_rhyme x y u)) := by
  obtain ⟨⟨W, Lv, C⟩, -⟩ := id V
  have b4 := wf_pls W
  have b6 := wf_rows W
  refine k_player W C (fun p hp ep => ?_) (fun z => ⟨0, rfl, mc_rhyme W (fun p k r hp ep => absurd ep (z p hp)) (fun _ I' t => bad_of (by decide +kernel) ⟨t.2, INV_m V t.1⟩) (fun p hp ep => absurd ep (z p hp)) (fun p k hp ep => absurd ep (z p hp))⟩)
  have p4 : p < 4 := by omega
  have same : ∀ p', p' < dn (I 12 2) 1 → x = nI p' → p' = p := fun p' h e => nij e ep (by omega) (by omega)
  refine k_place W C ep hp (fun k hk ek => ?_) (fun z => ⟨0, rfl, mc_rhyme W (fun p' k r hp' ep' hk ek => by rw [same p' hp' ep'] at hk; exact absurd ek (z k hk)) (fun z2 => absurd ep (z2 p hp)) (fun _ _ _ _ I' t => bad_of (by decide +kernel) ⟨t.2, INV_m V t.1⟩) (fun p' k hp' ep' hk ek => by rw [same p' hp' ep'] at hk; exact absurd ek (z k hk))⟩)
  have m8 := (W.2.2.2 p p4).1
  refine k_row W C (fun r hr er => ?_) (fun z => ⟨0, rfl, mc_rhyme W (fun p' k' r hp' ep' hk' ek' hr er => absurd er (z r hr)) (fun z2 => absurd ep (z2 p hp)) (fun p' hp' ep' z2 => by rw [same p' hp' ep'] at z2; exact absurd ek (z2 k hk)) (fun _ _ _ _ _ _ _ I' t => bad_of (by decide +kernel) ⟨t.2, INV_m V t.1⟩)⟩)
  have r6 : r < 6 := by omega
  have fin : ∀ v : Int32, v = (if mWds (I 12 2) r = 0 then -1 else nI (mRh (I 12 2) p k r)) → AG (f_X8_rhyme x y u) v I J := fun v ev J2 e2 e3 => mc_rhyme W (fun p' k' r' hp' ep' hk' ek' hr' er' I' t => post_of e3 ⟨t.2, by rw [same p' hp' ep'] at hk' ⊢; rw [ev, nij er er' (by omega) (by omega), nij ek ek' (by omega) (by omega)], INV_m (INV_13 V e2) t.1, t.1.2.2.2.2.2 13 (by decide)⟩) (fun z => absurd ep (z p hp)) (fun p' hp' ep' z2 => by rw [same p' hp' ep'] at z2; exact absurd ek (z2 k hk)) (fun p' k' hp' ep' hk' ek' z2 => absurd er (z2 r hr))
  have c := C.2.2.1 r hr
  have hw : mWds (I 12 2) r < 1048576 := wf_b W (okc_row r6 (k := 2) (by decide) (by decide))
  refine ⟨vin r 6 r6 (by decide) er, ?_⟩
  rw [cln (by omega) er]
  refine q_eq (mWds (I 12 2) r) 0 (by omega) (by decide) (c.2.2.1.trans (wf_c W (okc_row r6 (k := 2) (by decide) (by decide)))) rfl (fun q => fin _ (by rw [if_pos q])) (fun q => g_wordOf W C p k ep ek hp hk ⟨vin r 6 r6 (by decide) er, k_rhymeOf C.2.1 _ _ _ _ (wrd_hand W p4 hk) (wrd_last W r6) rfl c.2.2.2.2.1 (fin _ (by rw [if_neg q]; rfl))⟩)
theorem b_why {x y : Int32} (V : INV I J) : f_X7_why x y I J (AG (f_X8_why x y)) (XR [1] (f_X8_why x y)) := by
  obtain ⟨⟨W, Lv, C⟩, -⟩ := id V
  have b6 := wf_rows W
  have t5 : dn (I 12 2) 5 < dn (I 12 2) 1 := W.2.1.2.2.2.2.2.1
  have m8 := (W.2.2.2 _ (wf_turn W)).1
  refine k_place W C (e_turn W C) t5 (fun k hk ek => ?_) (fun z => ⟨0, rfl, mc_why W (fun k r hk ek => absurd ek (z k hk)) (fun _ I' t => bad_of (by decide +kernel) ⟨t.2, INV_m V t.1⟩) (fun k hk ek => absurd ek (z k hk))⟩)
  refine k_row W C (fun r hr er => ?_) (fun z => ⟨0, rfl, mc_why W (fun k' r hk' ek' hr er => absurd er (z r hr)) (fun z2 => absurd ek (z2 k hk)) (fun _ _ _ _ I' t => bad_of (by decide +kernel) ⟨t.2, INV_m V t.1⟩)⟩)
  exact g_obstacleNow W C k r ek er hk hr (fun J2 e2 e3 => mc_why W (fun k' r' hk' ek' hr' er' I' t => post_of e3 ⟨t.2, by rw [nij er er' (by omega) (by omega), nij ek ek' (by omega) (by omega)], INV_m (INV_13 V e2) t.1, t.1.2.2.2.2.2 13 (by decide)⟩) (fun z => absurd ek (z k hk)) (fun k' hk' ek' z => absurd er (z r hr)))
theorem fR_11 {I' : MI} (h : ∀ b' r', ¬ (b' = 11 ∧ 6 ≤ r') → I' b' r' = I b' r') : fR I I' J J := ⟨fun b _ _ h11 => by funext r; exact h b r (fun z => h11 z.1), fun r _ _ => h 0 r (by omega), fun r hr => h 11 r (by omega), fun _ _ => rfl⟩
theorem b_chains {x y u : Int32} {w : Nat} (V : INV I J) (hw : w ≤ 2) (eu : u = nI w) (S : MI → MJ → (Int32 → MI → MJ → Prop) → Prop)
    (hS : ∀ (p r : Nat) (K : Int32 → MI → MJ → Prop), p < dn (I 12 2) 1 → x = nI p → r < dn (I 12 2) 0 → y = nI r → (∀ (I' : MI) (v : Int32), fR I I' J J → v = (if w = 2 ∧ mFree (I 12 2) r = 0 then 1 else nI (chAll (I 12 2) p r w)) → K v I' J) → S I J K) :
    f_X7_checkPlayer x I J (fun I1 J1 => f_X7_checkRow y I1 J1 (fun I2 J2 => S I2 J2 (AG (f_X8_chains x y u))) (XR [1] (f_X8_chains x y u))) (XR [1] (f_X8_chains x y u)) := by
  obtain ⟨⟨W, Lv, C⟩, -⟩ := id V
  have b4 := wf_pls W
  have b6 := wf_rows W
  refine k_player W C (fun p hp ep => ?_) (fun z => ⟨0, rfl, mc_chains W hw eu (fun p r hp ep => absurd ep (z p hp)) (fun _ I' t => bad_of (by decide +kernel) ⟨t.2, INV_m V t.1⟩) (fun p hp ep => absurd ep (z p hp))⟩)
  refine k_row W C (fun r hr er => ?_) (fun z => ⟨0, rfl, mc_chains W hw eu (fun p' r hp' ep' hr er => absurd er (z r hr)) (fun z2 => absurd ep (z2 p hp)) (fun _ _ _ _ I' t => bad_of (by decide +kernel) ⟨t.2, INV_m V t.1⟩)⟩)
  refine hS p r _ hp ep hr er (fun I1 v f ev J2 e2 e3 => ?_)
  have V1 := INV_f V f
  have e12 : I1 12 2 = I 12 2 := by rw [f.1 12 (by decide) (by decide) (by decide)]
  have W1 : WF (I1 12 2) := by rw [e12]; exact W
  refine mc_chains W1 hw eu (fun p' r' hp' ep' hr' er' I' t => post_of e3 ⟨t.2, ?_, INV_m (INV_13 V1 e2) t.1, t.1.2.2.2.2.2 13 (by decide)⟩) (fun z => absurd ep (z p (by rw [e12]; exact hp))) (fun p' hp' ep' z => absurd er (z r (by rw [e12]; exact hr)))
  rw [e12] at hp' hr' ⊢
  rw [ev, nij ep ep' (by omega) (by omega), nij er er' (by omega) (by omega)]
theorem b_chain {x y : Int32} (V : INV I J) : f_X7_chain x y I J (AG (f_X8_chain x y)) (XR [1] (f_X8_chain x y)) :=
  b_chains (w := 0) V (by decide) rfl (fun I2 J2 K => f_X0_search 0 x y I2 J2 (fun I5 J5 => K (I5 11 6 0) I5 J5)) (fun p r K hp ep hr er h => k_search V.1.1 V.1.2.2 hp hr ep er (fun I' f c => h I' _ (fR_11 f) (by rw [c 0 (by decide), if_neg (by omega)])))
theorem b_worth {x y : Int32} (V : INV I J) : f_X7_worth x y I J (AG (f_X8_worth x y)) (XR [1] (f_X8_worth x y)) :=
  b_chains (w := 1) V (by decide) rfl (fun I2 J2 K => f_X0_search 0 x y I2 J2 (fun I5 J5 => K (I5 11 6 1) I5 J5)) (fun p r K hp ep hr er h => k_search V.1.1 V.1.2.2 hp hr ep er (fun I' f c => h I' _ (fR_11 f) (by rw [c 1 (by decide), if_neg (by omega)])))
theorem b_fillings {x y : Int32} (V : INV I J) : f_X7_fillings x y I J (AG (f_X8_fillings x y)) (XR [1] (f_X8_fillings x y)) :=
  b_chains (w := 2) V (by decide) rfl (fun I2 J2 K => f_X1_freeTiles 0 y I2 J2 (fun v I5 J5 => ((v = (0 : Int32) → K (1 : Int32) I5 J5) ∧ (¬ v = (0 : Int32) → f_X0_search 0 x y I5 J5 (fun I9 J9 => K (I9 11 6 2) I9 J9))))) (fun p r K hp ep hr er h => by
    have W := V.1.1
    have b6 := wf_rows W
    have hfr : mFree (I 12 2) r ≤ 40 := by have := (W.2.2.1 r (by omega)).1; show _ - _ ≤ _; omega
    exact g_free W V.1.2.2 r er hr (q_eq (mFree (I 12 2) r) 0 (by omega) (by decide) rfl rfl (fun q => h I 1 fR.rfl (by rw [if_pos ⟨rfl, q⟩])) (fun q => k_search W V.1.2.2 hp hr ep er (fun I' f c => h I' _ (fR_11 f) (by rw [c 2 (by decide), if_neg (fun z => q z.2)])))))
theorem b_threats {x : Int32} (V : INV I J) : f_X7_threats x I J (AG (f_X8_threats x)) (XR [1] (f_X8_threats x)) := by
  obtain ⟨⟨W, Lv, C⟩, -⟩ := id V
  have b4 := wf_pls W
  have b6 := wf_rows W
  refine k_row W C (fun r hr er => ?_) (fun z => ⟨0, rfl, mc_threats W (fun r hr er => absurd er (z r hr)) (fun _ I' t => bad_of (by decide +kernel) ⟨t.2, INV_m V t.1⟩)⟩)
  refine ⟨dn (I 12 2) 1 + 1, up_inv (fun m (s : Int32) j => f_X7_threats_L9 x _ m s j I J) (fun i s => s = nI (thr (I 12 2) r i)) (dn (I 12 2) 1) (fun m s hs => ?_) (fun m s i hi hs ih => ?_) 0 rfl⟩
  · show f_X7_threats_B9 _ _ _ _ _ I J
    refine q_t (by rw [e_pls W C]; exact Int32.le_refl _) ?_
    rw [hs]
    exact fun J2 e2 e3 => mc_threats W (fun r' hr' er' I' t => post_of e3 ⟨t.2, by rw [nij er er' (by omega) (by omega)], INV_m (INV_13 V e2) t.1, t.1.2.2.2.2.2 13 (by decide)⟩) (fun z => absurd er (z r hr))
  · show f_X7_threats_B9 _ _ _ _ _ I J
    have lt := thr_lt (I 12 2) r i (by omega)
    refine q_f (by rw [e_pls W C]; exact nge hi (by omega)) (g_canFill W C i r rfl er hi hr ?_)
    have e : thr (I 12 2) r (i + 1) = if canF (I 12 2) i r then thr (I 12 2) r i ||| 2 ^ i else thr (I 12 2) r i := rfl
    by_cases q : canF (I 12 2) i r = true
    · rw [if_pos q] at e ⊢
      exact q_f (by decide) (fun z ez j ej => ih z j (by rw [ez, hs, or_bit _ lt i (by omega), e]) (by rw [ej, nI_1]))
    · rw [if_neg q] at e ⊢
      exact q_t rfl (fun j ej => ih s j (by rw [hs, e]) (by rw [ej, nI_1]))
end BQ
