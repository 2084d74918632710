/-! SUMS by loops, on both sides -/
def sumN (f : Nat → Nat) : Nat → Nat
  | 0 => 0
  | n + 1 => sumN f n + f n
theorem up_sum (L : Nat → Int32 → Int32 → Prop) (K : Int32 → Prop) (n : Nat) (f : Nat → Nat) (hend : ∀ (m acc : Nat), K (nI acc) → L (m + 1) (nI acc) (nI n))
    (hstep : ∀ (m acc i : Nat), i < n → (∀ a j : Int32, a = nI (acc + f i) → j = nI (i + 1) → L m a j) → L (m + 1) (nI acc) (nI i)) (h : K (nI (sumN f n))) : L (n + 1) 0 0 := by
  have key : ∀ k i : Nat, i + k = n → L (k + 1) (nI (sumN f i)) (nI i) := by
    intro k
    induction k with
    | zero =>
      intro i hi
      have : i = n := by omega
      subst this
      exact hend 0 _ h
    | succ k ih =>
      intro i hi
      refine hstep (k + 1) _ i (by omega) (fun a j ea ej => ?_)
      rw [ea, ej]
      exact ih (i + 1) (by omega)
  exact key n 0 (Nat.zero_add n)
/-- the same from any start -/
theorem up_sum2 (L : Nat → Int32 → Int32 → Prop) (K : Int32 → Prop) (n s0 : Nat) (f : Nat → Nat) (hend : ∀ (m acc : Nat), K (nI acc) → L (m + 1) (nI acc) (nI n))
    (hstep : ∀ (m acc i : Nat), i < n → (∀ a j : Int32, a = nI (acc + f i) → j = nI (i + 1) → L m a j) → L (m + 1) (nI acc) (nI i)) (h : K (nI (s0 + sumN f n))) : L (n + 1) (nI s0) 0 := by
  have key : ∀ k i : Nat, i + k = n → L (k + 1) (nI (s0 + sumN f i)) (nI i) := by
    intro k
    induction k with
    | zero =>
      intro i hi
      have : i = n := by omega
      subst this
      exact hend 0 _ h
    | succ k ih =>
      intro i hi
      refine hstep (k + 1) _ i (by omega) (fun a j ea ej => ?_)
      rw [ea, ej, Nat.add_assoc]
      exact ih (i + 1) (by omega)
  exact key n 0 (Nat.zero_add n)
theorem nge {i n : Nat} (h : i < n) (hn : n < 2 ^ 31) : ¬ nI n ≤ nI i := nI_ge h hn
def sWords (d : Nat → Int32) : Nat := sumN (fun p => mMany d p) (dn d 1)
def sLaid (d : Nat → Int32) : Nat := sumN (fun r => mWds d r) (dn d 0)
def sFull (d : Nat → Int32) : Nat := sumN (fun r => if mFree d r = 0 then 1 else 0) (dn d 0)
def sOwn (d : Nat → Int32) (x : Int32) : Nat := sumN (fun r => if d (rA r + 3) = x then 1 else 0) (dn d 0)
def sPl1 (d : Nat → Int32) (k : Nat) : Nat := sumN (fun r => if mRef d k r = 0 then 1 else 0) (dn d 0)
def sPlays (d : Nat → Int32) : Nat := sumN (sPl1 d) (mMany d (dn d 5))
theorem mRef_lt (d : Nat → Int32) (k r : Nat) : mRef d k r < 5 := by
  unfold mRef mHin
  repeat' split
  all_goals omega
section SM
variable {I : MI} {J : MJ}
theorem c0 (W : WF (I 12 2)) : I 12 2 (0 : Int32).toNatClampNeg = nI (dn (I 12 2) 0) := wf_c W (okc_lo (i := 0) (by decide))
theorem c1 (W : WF (I 12 2)) : I 12 2 (1 : Int32).toNatClampNeg = nI (dn (I 12 2) 1) := wf_c W (okc_lo (i := 1) (by decide))
theorem c5 (W : WF (I 12 2)) : I 12 2 (5 : Int32).toNatClampNeg = nI (dn (I 12 2) 5) := wf_c W (okc_lo (i := 5) (by decide))
theorem m_many {Q : Int32 → MI → MJ → Prop} (W : WF (I 12 2)) (p : Nat) {x : Int32} (e : x = nI p) (hp : p < 4) (h : Q (nI (mMany (I 12 2) p)) I J) : f_X8_ofPlayer x 1 I J Q := by
  refine m_ofPlayer p 1 e rfl hp (by decide) ?_
  rw [show I 12 2 (pA p + 1) = nI (mMany (I 12 2) p) from wf_c W (okc_pl hp (k := 1) (by decide) (by decide))]
  exact h
theorem m_handNow {Q : Int32 → MI → MJ → Prop} (W : WF (I 12 2)) (h : Q (nI (mMany (I 12 2) (dn (I 12 2) 5))) I J) : f_X8_handNow I J Q :=
  ⟨vin 5 _ (by decide) (by decide) rfl, m_many W (dn (I 12 2) 5) (c5 W) (wf_turn W) h⟩
theorem m_wordsOfAll {Q : Int32 → MI → MJ → Prop} (W : WF (I 12 2)) (h : Q (nI (sWords (I 12 2))) I J) : f_X8_wordsOfAll I J Q := by
  have hp := wf_pls W
  refine ⟨dn (I 12 2) 1 + 1, up_sum (fun m a i => f_X8_wordsOfAll_L4 _ m a i I J) (fun v => Q v I J) (dn (I 12 2) 1) _ (fun m acc h => ?_) (fun m acc i hi h => ?_) h⟩
  · show f_X8_wordsOfAll_B4 _ _ _ _ I J
    exact ⟨vin 1 _ (by decide) (by decide) rfl, q_t (by rw [c1 W]; exact Int32.le_refl _) h⟩
  · show f_X8_wordsOfAll_B4 _ _ _ _ I J
    refine ⟨vin 1 _ (by decide) (by decide) rfl, q_f (by rw [c1 W]; exact nge hi (by omega)) (m_many W i rfl (by omega) (fun a ea j ej => h a j ?_ ?_))⟩
    · rw [ea, nI_add]
    · rw [ej, nI_1]
theorem m_laidWords {Q : Int32 → MI → MJ → Prop} (W : WF (I 12 2)) (h : Q (nI (sLaid (I 12 2))) I J) : f_X8_laidWords I J Q := by
  have hp := wf_rows W
  refine ⟨dn (I 12 2) 0 + 1, up_sum (fun m a i => f_X8_laidWords_L4 _ m a i I J) (fun v => Q v I J) (dn (I 12 2) 0) _ (fun m acc h => ?_) (fun m acc i hi h => ?_) h⟩
  · show f_X8_laidWords_B4 _ _ _ _ I J
    exact ⟨vin 0 _ (by decide) (by decide) rfl, q_t (by rw [c0 W]; exact Int32.le_refl _) h⟩
  · show f_X8_laidWords_B4 _ _ _ _ I J
    refine ⟨vin 0 _ (by decide) (by decide) rfl, q_f (by rw [c0 W]; exact nge hi (by omega)) (m_ofRow i 2 rfl rfl (by omega) (by decide) (fun a ea j ej => h a j ?_ ?_))⟩
    · rw [ea, wf_c W (okc_row (by omega) (k := 2) (by decide) (by decide)), nI_add]
    · rw [ej, nI_1]
theorem m_fullRows {Q : Int32 → MI → MJ → Prop} (W : WF (I 12 2)) (h : Q (nI (sFull (I 12 2))) I J) : f_X8_fullRows I J Q := by
  have hp := wf_rows W
  refine ⟨dn (I 12 2) 0 + 1, up_sum (fun m a i => f_X8_fullRows_L4 _ m a i I J) (fun v => Q v I J) (dn (I 12 2) 0) _ (fun m acc h => ?_) (fun m acc i hi h => ?_) h⟩
  · show f_X8_fullRows_B4 _ _ _ _ I J
    exact ⟨vin 0 _ (by decide) (by decide) rfl, q_t (by rw [c0 W]; exact Int32.le_refl _) h⟩
  · show f_X8_fullRows_B4 _ _ _ _ I J
    have w := (W.2.2.1 i (by omega)).1
    refine ⟨vin 0 _ (by decide) (by decide) rfl, q_f (by rw [c0 W]; exact nge hi (by omega)) (m_free W i rfl (by omega) (q_eq (mFree (I 12 2) i) 0 (by show _ - _ < _; omega) (by decide) rfl rfl (fun q a ea j ej => h a j ?_ ?_) (fun q a ea j ej => h a j ?_ ?_)))⟩
    · rw [ea, if_pos q]; exact nI_1 _
    · rw [ej, nI_1]
    · rw [ea, if_neg q]; exact nI_add _ 0
    · rw [ej, nI_1]
theorem m_owned {x : Int32} {Q : Int32 → MI → MJ → Prop} (W : WF (I 12 2)) (h : Q (nI (sOwn (I 12 2) x)) I J) : f_X8_owned x I J Q := by
  have hp := wf_rows W
  refine ⟨dn (I 12 2) 0 + 1, up_sum (fun m a i => f_X8_owned_L4 x _ m a i I J) (fun v => Q v I J) (dn (I 12 2) 0) _ (fun m acc h => ?_) (fun m acc i hi h => ?_) h⟩
  · show f_X8_owned_B4 _ _ _ _ _ I J
    exact ⟨vin 0 _ (by decide) (by decide) rfl, q_t (by rw [c0 W]; exact Int32.le_refl _) h⟩
  · show f_X8_owned_B4 _ _ _ _ _ I J
    refine ⟨vin 0 _ (by decide) (by decide) rfl, q_f (by rw [c0 W]; exact nge hi (by omega)) (m_ofRow i 3 rfl rfl (by omega) (by decide) ⟨fun q a ea j ej => h a j ?_ ?_, fun q a ea j ej => h a j ?_ ?_⟩)⟩
    · rw [ea, if_pos q]; exact nI_1 _
    · rw [ej, nI_1]
    · rw [ea, if_neg q]; exact nI_add _ 0
    · rw [ej, nI_1]
theorem m_plays {Q : Int32 → MI → MJ → Prop} (W : WF (I 12 2)) (h : Q (nI (sPlays (I 12 2))) I J) : f_X8_plays I J Q := by
  have hp := wf_rows W
  have hm := (W.2.2.2 _ (wf_turn W)).1
  refine ⟨mMany (I 12 2) (dn (I 12 2) 5) + 1, up_sum (fun m a i => f_X8_plays_L4 _ m a i I J) (fun v => Q v I J) (mMany (I 12 2) (dn (I 12 2) 5)) _ (fun m acc h => ?_) (fun m acc i hi h => ?_) h⟩
  · show f_X8_plays_B4 _ _ _ _ I J
    exact m_handNow W (q_t (Int32.le_refl _) h)
  · show f_X8_plays_B4 _ _ _ _ I J
    refine m_handNow W (q_f (nge hi (by omega)) ⟨dn (I 12 2) 0 + 1, up_sum2 (fun m a j => f_X8_plays_L14 (nI i) _ m a j I J) (fun v => ∀ z, z = nI i + 1 → f_X8_plays_L4 _ m v z I J) (dn (I 12 2) 0) acc (fun r => if mRef (I 12 2) i r = 0 then 1 else 0) (fun m acc h => ?_) (fun m acc r hr h => ?_) (fun z ez => h _ _ rfl (by rw [ez, nI_1]))⟩)
    · show f_X8_plays_B14 _ _ _ _ _ I J
      exact ⟨vin 0 _ (by decide) (by decide) rfl, q_t (by rw [c0 W]; exact Int32.le_refl _) h⟩
    · show f_X8_plays_B14 _ _ _ _ _ I J
      have hl := mRef_lt (I 12 2) i r
      refine ⟨vin 0 _ (by decide) (by decide) rfl, q_f (by rw [c0 W]; exact nge hr (by omega)) (m_refusal W i r rfl rfl hi (by omega) (q_eq (mRef (I 12 2) i r) 0 (by omega) (by decide) rfl rfl (fun q a ea j ej => h a j ?_ ?_) (fun q a ea j ej => h a j ?_ ?_)))⟩
      · rw [ea, if_pos q]; exact nI_1 _
      · rw [ej, nI_1]
      · rw [ea, if_neg q]; exact nI_add _ 0
      · rw [ej, nI_1]
end SM
section SC
variable {I : MI} {J : MJ} {d : Nat → Int32} {b : Nat}
theorem e_rows (W : WF d) (C : RC I J b d) : I b 1 3 = nI (dn d 0) := C.1.1.trans (wf_c W (okc_lo (i := 0) (by decide)))
theorem e_pls (W : WF d) (C : RC I J b d) : I b 1 4 = nI (dn d 1) := C.1.2.1.trans (wf_c W (okc_lo (i := 1) (by decide)))
theorem e_turn (W : WF d) (C : RC I J b d) : I b 0 9 = nI (dn d 5) := C.1.2.2.2.2.2.1.trans (wf_c W (okc_lo (i := 5) (by decide)))
theorem e_many (W : WF d) (C : RC I J b d) {p : Nat} (hp : p < dn d 1) : I b 13 p = nI (mMany d p) := (C.2.2.2.1 p hp).1.trans (wf_c W (okc_pl (by have := wf_pls W; omega) (k := 1) (by decide) (by decide)))
theorem g_wordsOfHands {Q : Int32 → MI → MJ → Prop} (W : WF d) (C : RC I J b d) (h : Q (nI (sWords d)) I J) : f_X1_wordsOfHands b I J Q := by
  have hp := wf_pls W
  refine ⟨dn d 1 + 1, up_sum (fun m a i => f_X1_wordsOfHands_L4 b _ m a i I J) (fun v => Q v I J) (dn d 1) _ (fun m acc h => ?_) (fun m acc i hi h => ?_) h⟩
  · show f_X1_wordsOfHands_B4 _ _ _ _ _ I J
    exact q_t (by rw [e_pls W C]; exact Int32.le_refl _) h
  · show f_X1_wordsOfHands_B4 _ _ _ _ _ I J
    refine q_f (by rw [e_pls W C]; exact nge hi (by omega)) ⟨vin i 4 (by omega) (by decide) rfl, fun a ea j ej => h a j ?_ ?_⟩
    · rw [ea, nI_clamp (by omega), e_many W C hi, nI_add]
    · rw [ej, nI_1]
theorem g_wordsOnRows {Q : Int32 → MI → MJ → Prop} (W : WF d) (C : RC I J b d) (h : Q (nI (sLaid d)) I J) : f_X1_wordsOnRows b I J Q := by
  have hp := wf_rows W
  refine ⟨dn d 0 + 1, up_sum (fun m a i => f_X1_wordsOnRows_L4 b _ m a i I J) (fun v => Q v I J) (dn d 0) _ (fun m acc h => ?_) (fun m acc i hi h => ?_) h⟩
  · show f_X1_wordsOnRows_B4 _ _ _ _ _ I J
    exact q_t (by rw [e_rows W C]; exact Int32.le_refl _) h
  · show f_X1_wordsOnRows_B4 _ _ _ _ _ I J
    refine q_f (by rw [e_rows W C]; exact nge hi (by omega)) ⟨vin i 6 (by omega) (by decide) rfl, fun a ea j ej => h a j ?_ ?_⟩
    · rw [ea, nI_clamp (by omega), (C.2.2.1 i hi).2.2.1, wf_c W (okc_row (by omega) (k := 2) (by decide) (by decide)), nI_add]
    · rw [ej, nI_1]
theorem g_filledRows {Q : Int32 → MI → MJ → Prop} (W : WF d) (C : RC I J b d) (h : Q (nI (sFull d)) I J) : f_X1_filledRows b I J Q := by
  have hp := wf_rows W
  refine ⟨dn d 0 + 1, up_sum (fun m a i => f_X1_filledRows_L4 b _ m a i I J) (fun v => Q v I J) (dn d 0) _ (fun m acc h => ?_) (fun m acc i hi h => ?_) h⟩
  · show f_X1_filledRows_B4 _ _ _ _ _ I J
    exact q_t (by rw [e_rows W C]; exact Int32.le_refl _) h
  · show f_X1_filledRows_B4 _ _ _ _ _ I J
    have w := (W.2.2.1 i (by omega)).1
    refine q_f (by rw [e_rows W C]; exact nge hi (by omega)) (g_free W C i rfl hi (q_eq (mFree d i) 0 (by show _ - _ < _; omega) (by decide) rfl rfl (fun q a ea j ej => h a j ?_ ?_) (fun q j ej => h _ j ?_ ?_)))
    · rw [ea, if_pos q]; exact nI_1 _
    · rw [ej, nI_1]
    · rw [if_neg q]; rfl
    · rw [ej, nI_1]
theorem g_rowsOwnedBy {x : Int32} {Q : Int32 → MI → MJ → Prop} (W : WF d) (C : RC I J b d) (h : Q (nI (sOwn d x)) I J) : f_X1_rowsOwnedBy b x I J Q := by
  have hp := wf_rows W
  refine ⟨dn d 0 + 1, up_sum (fun m a i => f_X1_rowsOwnedBy_L4 b x _ m a i I J) (fun v => Q v I J) (dn d 0) _ (fun m acc h => ?_) (fun m acc i hi h => ?_) h⟩
  · show f_X1_rowsOwnedBy_B4 _ _ _ _ _ _ I J
    exact q_t (by rw [e_rows W C]; exact Int32.le_refl _) h
  · show f_X1_rowsOwnedBy_B4 _ _ _ _ _ _ I J
    refine q_f (by rw [e_rows W C]; exact nge hi (by omega)) ⟨vin i 6 (by omega) (by decide) rfl, ?_⟩
    rw [nI_clamp (by omega), (C.2.2.1 i hi).2.2.2.1]
    refine ⟨fun q a ea j ej => h a j ?_ ?_, fun q j ej => h _ j ?_ ?_⟩
    · rw [ea, if_pos q]; exact nI_1 _
    · rw [ej, nI_1]
    · rw [if_neg q]; rfl
    · rw [ej, nI_1]
theorem g_playsNow {Q : Int32 → MI → MJ → Prop} (W : WF d) (C : RC I J b d) (h : Q (nI (sPlays d)) I J) : f_X1_playsNow b I J Q := by
  have hp := wf_rows W
  have hq := wf_turn W
  have hm := (W.2.2.2 _ (wf_turn W)).1
  have et : (I b 0 9).toNatClampNeg = dn d 5 := cln (by omega) (e_turn W C)
  have em := e_many W C (wf_tp W)
  refine ⟨mMany d (dn d 5) + 1, up_sum (fun m a i => f_X1_playsNow_L4 b _ m a i I J) (fun v => Q v I J) (mMany d (dn d 5)) _ (fun m acc h => ?_) (fun m acc i hi h => ?_) h⟩
  · show f_X1_playsNow_B4 _ _ _ _ _ I J
    exact ⟨vin _ 4 hq (by decide) (e_turn W C), q_t (by rw [et, em]; exact Int32.le_refl _) h⟩
  · show f_X1_playsNow_B4 _ _ _ _ _ I J
    refine ⟨vin _ 4 hq (by decide) (e_turn W C), q_f (by rw [et, em]; exact nge hi (by omega)) ⟨dn d 0 + 1, up_sum2 (fun m a j => f_X1_playsNow_L19 b (nI i) _ m a j I J) (fun v => ∀ z, z = nI i + 1 → f_X1_playsNow_L4 b _ m v z I J) (dn d 0) acc (fun r => if mRef d i r = 0 then 1 else 0) (fun m acc h => ?_) (fun m acc r hr h => ?_) (fun z ez => h _ _ rfl (by rw [ez, nI_1]))⟩⟩
    · show f_X1_playsNow_B19 _ _ _ _ _ _ I J
      exact q_t (by rw [e_rows W C]; exact Int32.le_refl _) h
    · show f_X1_playsNow_B19 _ _ _ _ _ _ I J
      have hl := mRef_lt d i r
      refine q_f (by rw [e_rows W C]; exact nge hr (by omega)) (g_obstacleNow W C i r rfl rfl hi hr (q_eq (mRef d i r) 0 (by omega) (by decide) rfl rfl (fun q a ea j ej => h a j ?_ ?_) (fun q j ej => h _ j ?_ ?_)))
      · rw [ea, if_pos q]; exact nI_1 _
      · rw [ej, nI_1]
      · rw [if_neg q]; rfl
      · rw [ej, nI_1]
end SC
