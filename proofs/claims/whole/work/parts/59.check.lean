/-! THE CHECKSUM, on both sides -/
def it (f : Nat → Int64 → Int64) : Nat → Int64 → Int64
  | 0, s => s
  | n + 1, s => f n (it f n s)
def fk (g : Nat → Int32) : Nat → Int64 → Int64 := fun k s => (31 : Int64) * s + (g k).toInt64
def cRow (d : Nat → Int32) (r : Nat) (s : Int64) : Int64 := it (fk (mTile d r)) (mTil d r) (it (fk (mRowN d r)) 4 s)
def cWrd (d : Nat → Int32) (p k : Nat) (s : Int64) : Int64 := it (fk (fun j => d (wA p k + 1 + j))) (mLen d p k) s
def cPl (d : Nat → Int32) (p : Nat) (s : Int64) : Int64 := it (cWrd d p) (mMany d p) (it (fk (mPlN d p)) 4 s)
def cSum (d : Nat → Int32) : Int64 := it (cPl d) (dn d 1) (it (cRow d) (dn d 0) (it (fk (mState d)) 12 0))
abbrev tI (I : MI) : MI := sI I 12 0 0 0
section CM
variable {I : MI} {J : MJ}
theorem m_ck49 {K : Int64 → MI → MJ → Prop} {x : Int32} (W : WF (I 12 2)) (r : Nat) (e : x = nI r) (hr : r < 6) (s : Int64) (h : K (it (fk (mRowN (I 12 2) r)) 4 s) I J) : f_X8_checksum_L49 x K 5 s 0 I J := by
  refine up_inv (fun m (s' : Int64) j => f_X8_checksum_L49 x K m s' j I J) (fun i s' => s' = it (fk (mRowN (I 12 2) r)) i s) 4 (fun m s' hs => ?_) (fun m s' i hi hs ih => ?_) s rfl
  · show f_X8_checksum_B49 _ _ _ _ _ I J
    exact q_t (Int32.le_refl _) (by rw [hs]; exact h)
  · show f_X8_checksum_B49 _ _ _ _ _ I J
    exact q_f (nge hi (by decide)) (m_toldRow W r i e rfl hr hi (fun z ez j ej => ih z j (by rw [ez, hs]; rfl) (by rw [ej, nI_1])))
theorem m_ck79 {K : Int64 → MI → MJ → Prop} {x : Int32} (W : WF (I 12 2)) (r : Nat) (e : x = nI r) (hr : r < 6) (s : Int64) (h : K (it (fk (mTile (I 12 2) r)) (mTil (I 12 2) r) s) I J) : f_X8_checksum_L79 x K (mTil (I 12 2) r + 1) s 0 I J := by
  have w := W.2.2.1 r hr
  have et : I 12 2 (rA r + 0) = nI (mTil (I 12 2) r) := wf_c W (okc_row hr (k := 0) (by decide) (by decide))
  refine up_inv (fun m (s' : Int64) j => f_X8_checksum_L79 x K m s' j I J) (fun i s' => s' = it (fk (mTile (I 12 2) r)) i s) (mTil (I 12 2) r) (fun m s' hs => ?_) (fun m s' i hi hs ih => ?_) s rfl
  · show f_X8_checksum_B79 _ _ _ _ _ I J
    exact m_ofRow r 0 e rfl hr (by decide) (q_t (by rw [et]; exact Int32.le_refl _) (by rw [hs]; exact h))
  · show f_X8_checksum_B79 _ _ _ _ _ I J
    exact m_ofRow r 0 e rfl hr (by decide) (q_f (by rw [et]; exact nge hi (by omega)) (m_toldTile W r i e rfl hr (by omega) (fun z ez j ej => ih z j (by rw [ez, hs]; rfl) (by rw [ej, nI_1]))))
theorem m_ck36 {K : Int64 → MI → MJ → Prop} (W : WF (I 12 2)) (s : Int64) (h : K (it (cRow (I 12 2)) (dn (I 12 2) 0) s) I J) : f_X8_checksum_L36 K (dn (I 12 2) 0 + 1) s 0 I J := by
  have h6 := wf_rows W
  refine up_inv (fun m (s' : Int64) j => f_X8_checksum_L36 K m s' j I J) (fun i s' => s' = it (cRow (I 12 2)) i s) (dn (I 12 2) 0) (fun m s' hs => ?_) (fun m s' i hi hs ih => ?_) s rfl
  · show f_X8_checksum_B36 _ _ _ _ I J
    exact ⟨vin 0 _ (by decide) (by decide) rfl, q_t (by rw [c0 W]; exact Int32.le_refl _) (by rw [hs]; exact h)⟩
  · show f_X8_checksum_B36 _ _ _ _ I J
    exact ⟨vin 0 _ (by decide) (by decide) rfl, q_f (by rw [c0 W]; exact nge hi (by omega)) ⟨5, m_ck49 W i rfl (by omega) s' ⟨_, m_ck79 W i rfl (by omega) _ (fun j ej => ih _ j (by rw [hs]; rfl) (by rw [ej, nI_1]))⟩⟩⟩
theorem m_ck132 {K : Int64 → MI → MJ → Prop} {x : Int32} (W : WF (I 12 2)) (p : Nat) (e : x = nI p) (hp : p < 4) (s : Int64) (h : K (it (fk (mPlN (I 12 2) p)) 4 s) I J) : f_X8_checksum_L132 x K 5 s 0 I J := by
  refine up_inv (fun m (s' : Int64) j => f_X8_checksum_L132 x K m s' j I J) (fun i s' => s' = it (fk (mPlN (I 12 2) p)) i s) 4 (fun m s' hs => ?_) (fun m s' i hi hs ih => ?_) s rfl
  · show f_X8_checksum_B132 _ _ _ _ _ I J
    exact q_t (Int32.le_refl _) (by rw [hs]; exact h)
  · show f_X8_checksum_B132 _ _ _ _ _ I J
    exact q_f (nge hi (by decide)) (m_toldPlayer W p i e rfl hp hi (fun z ez j ej => ih z j (by rw [ez, hs]; rfl) (by rw [ej, nI_1])))
theorem m_ck176 {K : Int64 → MI → MJ → Prop} {x y : Int32} (W : WF (I 12 2)) (p k : Nat) (e : x = nI p) (ey : y = nI k) (hp : p < 4) (hk : k < mMany (I 12 2) p) (s : Int64) (h : K (cWrd (I 12 2) p k s) I J) : f_X8_checksum_L176 x y K (mLen (I 12 2) p k + 1) s 0 I J := by
  have w := W.2.2.2 p hp
  have wl := (w.2 k hk).1
  have el := w_len W hp (show k < 8 by omega)
  refine up_inv (fun m (s' : Int64) j => f_X8_checksum_L176 x y K m s' j I J) (fun i s' => s' = it (fk (fun j => I 12 2 (wA p k + 1 + j))) i s) (mLen (I 12 2) p k) (fun m s' hs => ?_) (fun m s' i hi hs ih => ?_) s rfl
  · show f_X8_checksum_B176 _ _ _ _ _ _ I J
    exact m_lengthOf p k e ey hp (by omega) (q_t (by rw [el]; exact Int32.le_refl _) (by rw [hs]; exact h))
  · show f_X8_checksum_B176 _ _ _ _ _ _ I J
    have ea : (nI (wA p k) + (1 : Int32)) + nI i = nI (wA p k + 1 + i) := by rw [nlit 1, nI_add, nI_add]
    refine m_lengthOf p k e ey hp (by omega) (q_f (by rw [el]; exact nge hi (by omega)) (m_wordAt p k e ey ⟨vin _ _ (by show 306 + 74 * p + 2 + 9 * k + 1 + i < 1802; omega) (by decide) ea, fun z ez j ej => ih z j ?_ (by rw [ej, nI_1])⟩))
    rw [ez, cln (by show 306 + 74 * p + 2 + 9 * k + 1 + i < 2 ^ 31; omega) ea, hs]
    rfl
theorem m_ck162 {K : Int64 → MI → MJ → Prop} {x : Int32} (W : WF (I 12 2)) (p : Nat) (e : x = nI p) (hp : p < 4) (s : Int64) (h : K (it (cWrd (I 12 2) p) (mMany (I 12 2) p) s) I J) : f_X8_checksum_L162 x K (mMany (I 12 2) p + 1) s 0 I J := by
  have w := W.2.2.2 p hp
  refine up_inv (fun m (s' : Int64) j => f_X8_checksum_L162 x K m s' j I J) (fun i s' => s' = it (cWrd (I 12 2) p) i s) (mMany (I 12 2) p) (fun m s' hs => ?_) (fun m s' i hi hs ih => ?_) s rfl
  · show f_X8_checksum_B162 _ _ _ _ _ I J
    exact m_many W p e hp (q_t (Int32.le_refl _) (by rw [hs]; exact h))
  · show f_X8_checksum_B162 _ _ _ _ _ I J
    exact m_many W p e hp (q_f (nge hi (by omega)) ⟨_, m_ck176 W p i e rfl hp hi s' (fun j ej => ih _ j (by rw [hs]; rfl) (by rw [ej, nI_1]))⟩)
theorem m_ck119 {K : Int64 → MI → MJ → Prop} (W : WF (I 12 2)) (s : Int64) (h : K (it (cPl (I 12 2)) (dn (I 12 2) 1) s) I J) : f_X8_checksum_L119 K (dn (I 12 2) 1 + 1) s 0 I J := by
  have h4 := wf_pls W
  refine up_inv (fun m (s' : Int64) j => f_X8_checksum_L119 K m s' j I J) (fun i s' => s' = it (cPl (I 12 2)) i s) (dn (I 12 2) 1) (fun m s' hs => ?_) (fun m s' i hi hs ih => ?_) s rfl
  · show f_X8_checksum_B119 _ _ _ _ I J
    exact ⟨vin 1 _ (by decide) (by decide) rfl, q_t (by rw [c1 W]; exact Int32.le_refl _) (by rw [hs]; exact h)⟩
  · show f_X8_checksum_B119 _ _ _ _ I J
    exact ⟨vin 1 _ (by decide) (by decide) rfl, q_f (by rw [c1 W]; exact nge hi (by omega)) ⟨5, m_ck132 W i rfl (by omega) s' ⟨_, m_ck162 W i rfl (by omega) _ (fun j ej => ih _ j (by rw [hs]; rfl) (by rw [ej, nI_1]))⟩⟩⟩
theorem m_ck9 {K : Int64 → MI → MJ → Prop} (W : WF (I 12 2)) (s : Int64) (h : K (it (fk (mState (I 12 2))) 12 s) I J) : f_X8_checksum_L9 K 13 s 0 I J := by
  refine up_inv (fun m (s' : Int64) j => f_X8_checksum_L9 K m s' j I J) (fun i s' => s' = it (fk (mState (I 12 2))) i s) 12 (fun m s' hs => ?_) (fun m s' i hi hs ih => ?_) s rfl
  · show f_X8_checksum_B9 _ _ _ _ I J
    exact q_t (Int32.le_refl _) (by rw [hs]; exact h)
  · show f_X8_checksum_B9 _ _ _ _ I J
    exact q_f (nge hi (by decide)) (m_told W i rfl hi (fun z ez j ej => ih z j (by rw [ez, hs]; rfl) (by rw [ej, nI_1])))
theorem m_checksum {Q : Int64 → MI → MJ → Prop} (W : WF (I 12 2)) (h : Q (cSum (I 12 2)) (tI I) J) : f_X8_checksum I J Q := by
  intro I1 e1
  have W1 : WF (I1 12 2) := by rw [e1]; exact W
  have h1 : Q (cSum (I1 12 2)) I1 J := by rw [e1]; exact h
  exact ⟨_, m_ck9 W1 0 ⟨_, m_ck36 W1 _ ⟨_, m_ck119 W1 _ h1⟩⟩⟩
end CM
section CG
variable {I : MI} {J : MJ} {d : Nat → Int32}
theorem k_ck6 {K : Int64 → MI → MJ → Prop} {x : Int32} (W : WF d) (C : RC I J 0 d) (r : Nat) (e : x = nI r) (hr : r < dn d 0) (s : Int64) (h : K (it (fk (mRowN d r)) 4 s) I J) : f_X7_sumOfRow_L6 x K 5 s 0 I J := by
  refine up_inv (fun m (s' : Int64) j => f_X7_sumOfRow_L6 x K m s' j I J) (fun i s' => s' = it (fk (mRowN d r)) i s) 4 (fun m s' hs => ?_) (fun m s' i hi hs ih => ?_) s rfl
  · show f_X7_sumOfRow_B6 _ _ _ _ _ I J
    exact q_t (Int32.le_refl _) (by rw [hs]; exact h)
  · show f_X7_sumOfRow_B6 _ _ _ _ _ I J
    exact q_f (nge hi (by decide)) (g_rowNumber W C r i e rfl hr hi (fun z ez j ej => ih z j (by rw [ez, hs]; rfl) (by rw [ej, nI_1])))
theorem k_ck41 {K : Int64 → MI → MJ → Prop} {x : Int32} (W : WF d) (C : RC I J 0 d) (r : Nat) (e : x = nI r) (hr : r < dn d 0) (s : Int64) (h : K (it (fk (mTile d r)) (mTil d r) s) I J) : f_X7_sumOfRow_L41 x K (mTil d r + 1) s 0 I J := by
  have h6 := wf_rows W
  have w := W.2.2.1 r (by omega)
  have et : I 0 3 x.toNatClampNeg = nI (mTil d r) := by rw [cln (by omega) e]; exact (C.2.2.1 r hr).1.trans (wf_c W (okc_row (by omega) (k := 0) (by decide) (by decide)))
  have v6 : vp_in x 6 := vin r 6 (by omega) (by decide) e
  refine up_inv (fun m (s' : Int64) j => f_X7_sumOfRow_L41 x K m s' j I J) (fun i s' => s' = it (fk (mTile d r)) i s) (mTil d r) (fun m s' hs => ?_) (fun m s' i hi hs ih => ?_) s rfl
  · show f_X7_sumOfRow_B41 _ _ _ _ _ I J
    exact ⟨v6, q_t (by rw [et]; exact Int32.le_refl _) (by rw [hs]; exact h)⟩
  · show f_X7_sumOfRow_B41 _ _ _ _ _ I J
    exact ⟨v6, q_f (by rw [et]; exact nge hi (by omega)) (g_letterOnTile W C r i e rfl hr (by omega) (fun z ez j ej => ih z j (by rw [ez, hs]; rfl) (by rw [ej, nI_1])))⟩
theorem k_sumOfRow {Q : Int64 → MI → MJ → Prop} {s : Int64} {x : Int32} (W : WF d) (C : RC I J 0 d) (r : Nat) (e : x = nI r) (hr : r < dn d 0) (h : Q (cRow d r s) I J) : f_X7_sumOfRow s x I J Q :=
  ⟨_, k_ck6 W C r e hr s ⟨_, k_ck41 W C r e hr _ h⟩⟩
theorem k_cp6 {K : Int64 → MI → MJ → Prop} {x : Int32} (W : WF d) (C : RC I J 0 d) (p : Nat) (e : x = nI p) (hp : p < dn d 1) (s : Int64) (h : K (it (fk (mPlN d p)) 4 s) I J) : f_X7_sumOfPlayer_L6 x K 5 s 0 I J := by
  refine up_inv (fun m (s' : Int64) j => f_X7_sumOfPlayer_L6 x K m s' j I J) (fun i s' => s' = it (fk (mPlN d p)) i s) 4 (fun m s' hs => ?_) (fun m s' i hi hs ih => ?_) s rfl
  · show f_X7_sumOfPlayer_B6 _ _ _ _ _ I J
    exact q_t (Int32.le_refl _) (by rw [hs]; exact h)
  · show f_X7_sumOfPlayer_B6 _ _ _ _ _ I J
    exact q_f (nge hi (by decide)) (g_playerNumber W C p i e rfl hp hi (fun z ez j ej => ih z j (by rw [ez, hs]; rfl) (by rw [ej, nI_1])))
theorem k_cp77 {K : Int64 → MI → MJ → Prop} {x : Int64} {y : Int32} (W : WF d) (p k : Nat) (hp : p < 4) (hk : k < mMany d p) (ex : x = lN (pkN d (wA p k + 1) (mLen d p k))) (ey : y = nI (mLen d p k)) (s : Int64) (h : K (cWrd d p k s) I J) : f_X7_sumOfPlayer_L77 x y K (mLen d p k + 1) s 0 I J := by
  have wd := wrd_hand W hp hk
  have wl := ((W.2.2.2 p hp).2 k hk).1
  refine up_inv (fun m (s' : Int64) j => f_X7_sumOfPlayer_L77 x y K m s' j I J) (fun i s' => s' = it (fk (fun j => d (wA p k + 1 + j))) i s) (mLen d p k) (fun m s' hs => ?_) (fun m s' i hi hs ih => ?_) s rfl
  · show f_X7_sumOfPlayer_B77 _ _ _ _ _ _ I J
    exact q_t (by rw [ey]; exact Int32.le_refl _) (by rw [hs]; exact h)
  · show f_X7_sumOfPlayer_B77 _ _ _ _ _ _ I J
    exact q_f (by rw [ey]; exact nge hi (by omega)) (k_letter _ _ i wd ex rfl hi (fun z ez j ej => ih z j (by rw [ez, hs]; rfl) (by rw [ej, nI_1])))
theorem k_cp41 {K : Int64 → MI → MJ → Prop} {x : Int32} (W : WF d) (C : RC I J 0 d) (p : Nat) (e : x = nI p) (hp : p < dn d 1) (s : Int64) (h : K (it (cWrd d p) (mMany d p) s) I J) : f_X7_sumOfPlayer_L41 x K (mMany d p + 1) s 0 I J := by
  have h4 := wf_pls W
  have w := W.2.2.2 p (by omega)
  have em : I 0 13 x.toNatClampNeg = nI (mMany d p) := by rw [cln (by omega) e]; exact e_many W C hp
  have v4 : vp_in x 4 := vin p 4 (by omega) (by decide) e
  refine up_inv (fun m (s' : Int64) j => f_X7_sumOfPlayer_L41 x K m s' j I J) (fun i s' => s' = it (cWrd d p) i s) (mMany d p) (fun m s' hs => ?_) (fun m s' i hi hs ih => ?_) s rfl
  · show f_X7_sumOfPlayer_B41 _ _ _ _ _ I J
    exact ⟨v4, q_t (by rw [em]; exact Int32.le_refl _) (by rw [hs]; exact h)⟩
  · show f_X7_sumOfPlayer_B41 _ _ _ _ _ I J
    exact ⟨v4, q_f (by rw [em]; exact nge hi (by omega)) (g_wordOf W C p i e rfl hp hi (k_len _ _ (wrd_hand W (by omega) hi) rfl ⟨_, k_cp77 W p i (by omega) hi rfl rfl s' (fun j ej => ih _ j (by rw [hs]; rfl) (by rw [ej, nI_1]))⟩))⟩
theorem k_sumOfPlayer {Q : Int64 → MI → MJ → Prop} {s : Int64} {x : Int32} (W : WF d) (C : RC I J 0 d) (p : Nat) (e : x = nI p) (hp : p < dn d 1) (h : Q (cPl d p s) I J) : f_X7_sumOfPlayer s x I J Q :=
  ⟨_, k_cp6 W C p e hp s ⟨_, k_cp41 W C p e hp _ h⟩⟩
theorem k_ck4 {K : Int64 → MI → MJ → Prop} (W : WF d) (C : RC I J 0 d) (s : Int64) (h : K (it (fk (mState d)) 12 s) I J) : f_X7_checksum_L4 K 13 s 0 I J := by
  refine up_inv (fun m (s' : Int64) j => f_X7_checksum_L4 K m s' j I J) (fun i s' => s' = it (fk (mState d)) i s) 12 (fun m s' hs => ?_) (fun m s' i hi hs ih => ?_) s rfl
  · show f_X7_checksum_B4 _ _ _ _ I J
    exact q_t (Int32.le_refl _) (by rw [hs]; exact h)
  · show f_X7_checksum_B4 _ _ _ _ I J
    exact q_f (nge hi (by decide)) (g_stateNumber W C i rfl hi (fun z ez j ej => ih z j (by rw [ez, hs]; rfl) (by rw [ej, nI_1])))
theorem k_ck34 {K : Int64 → MI → MJ → Prop} (W : WF d) (C : RC I J 0 d) (s : Int64) (h : K (it (cRow d) (dn d 0) s) I J) : f_X7_checksum_L34 K (dn d 0 + 1) s 0 I J := by
  have h6 := wf_rows W
  refine up_inv (fun m (s' : Int64) j => f_X7_checksum_L34 K m s' j I J) (fun i s' => s' = it (cRow d) i s) (dn d 0) (fun m s' hs => ?_) (fun m s' i hi hs ih => ?_) s rfl
  · show f_X7_checksum_B34 _ _ _ _ I J
    exact q_t (by rw [e_rows W C]; exact Int32.le_refl _) (by rw [hs]; exact h)
  · show f_X7_checksum_B34 _ _ _ _ I J
    exact q_f (by rw [e_rows W C]; exact nge hi (by omega)) (k_sumOfRow W C i rfl hi (fun j ej => ih _ j (by rw [hs]; rfl) (by rw [ej, nI_1])))
theorem k_ck63 {K : Int64 → MI → MJ → Prop} (W : WF d) (C : RC I J 0 d) (s : Int64) (h : K (it (cPl d) (dn d 1) s) I J) : f_X7_checksum_L63 K (dn d 1 + 1) s 0 I J := by
  have h4 := wf_pls W
  refine up_inv (fun m (s' : Int64) j => f_X7_checksum_L63 K m s' j I J) (fun i s' => s' = it (cPl d) i s) (dn d 1) (fun m s' hs => ?_) (fun m s' i hi hs ih => ?_) s rfl
  · show f_X7_checksum_B63 _ _ _ _ I J
    exact q_t (by rw [e_pls W C]; exact Int32.le_refl _) (by rw [hs]; exact h)
  · show f_X7_checksum_B63 _ _ _ _ I J
    exact q_f (by rw [e_pls W C]; exact nge hi (by omega)) (k_sumOfPlayer W C i rfl hi (fun j ej => ih _ j (by rw [hs]; rfl) (by rw [ej, nI_1])))
theorem k_checksum {Q : Int64 → MI → MJ → Prop} (W : WF d) (C : RC I J 0 d) (h : Q (cSum d) I J) : f_X7_checksum I J Q :=
  ⟨_, k_ck4 W C 0 ⟨_, k_ck34 W C _ ⟨_, k_ck63 W C _ h⟩⟩⟩
end CG
