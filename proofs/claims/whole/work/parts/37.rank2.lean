/-! A RANK'S VALUE: the two machines -/
def sJ2 (J J2 : MJ) : Prop := ∀ b r, ¬ (b = 12 ∧ r = 14) → J2 b r = J b r
theorem sJ2.rfl {J : MJ} : sJ2 J J := fun _ _ _ => Eq.refl _
theorem sJ2.put {J J2 J3 : MJ} {i : Nat} {v : Int64} (h : sJ2 J J2) (e : J3 = sJ J2 12 14 i v) : sJ2 J J3 := fun b r q => by rw [e]; unfold sJ; rw [rJ_ne q]; exact h b r q
theorem sJ_at (J : MJ) (b r i : Nat) (v : Int64) : sJ J b r i v b r i = v := by unfold sJ; rw [rJ_same]; exact if_pos (Eq.refl i)
theorem sJ_ot (J : MJ) (b r : Nat) {i j : Nat} (v : Int64) (h : j ≠ i) : sJ J b r i v b r j = J b r j := by unfold sJ; rw [rJ_same]; exact if_neg h
theorem sI_at (I : MI) (b r i : Nat) (v : Int32) : sI I b r i v b r i = v := by unfold sI; rw [rI_same]; exact if_pos (Eq.refl i)
theorem sI_ot (I : MI) (b r : Nat) {i j : Nat} (v : Int32) (h : j ≠ i) : sI I b r i v b r j = I b r j := by unfold sI; rw [rI_same]; exact if_neg h
theorem tkD_0 {v n : Nat} {l : List TK} {z : Nat} (h : tkD ((0, v) :: l) n = some z) : (v ≤ 9999 ∧ n < 11) ∧ tkD l (n + 1) = some z := by
  unfold tkD at h
  split at h
  · next q => exact ⟨q, h⟩
  · cases h
theorem tkD_1 {v n : Nat} {l : List TK} {z : Nat} (h : tkD ((1, v) :: l) n = some z) : (v ≤ 5 ∧ n < 11) ∧ tkD l (n + 1) = some z := by
  unfold tkD at h
  split at h
  · next q => exact ⟨q, h⟩
  · cases h
theorem tkD_2 {o v n : Nat} {l : List TK} {z : Nat} (h : tkD ((o + 2, v) :: l) n = some z) : (o ≤ 3 ∧ 2 ≤ n) ∧ tkD l (n - 1) = some z := by
  unfold tkD at h
  split at h
  · next q => exact ⟨q, h⟩
  · cases h
def bdd (st : List Int) : Prop := ∀ z ∈ st, mil z
theorem bdd_c {z : Int} {st : List Int} (hz : mil z) (h : bdd st) : bdd (z :: st) := fun x hx => (List.mem_cons.mp hx).elim (fun e => by rw [e]; exact hz) (h x)
section M2
variable {I : MI}
theorem m_operate {J : MJ} {x0 : Int32} {x1 x3 : Int64} {Q : Int64 → MI → MJ → Prop} (o : Nat) (e0 : x0 = nI (o + 2)) (ho : o ≤ 3) (h1 : mil x1.toInt) (h3 : mil x3.toInt) (h : ∀ v : Int64, v.toInt = opZ o x1.toInt x3.toInt → Q v I J) : f_X8_operate x0 x1 x3 I J Q := by
  have b1 := h1
  have b3 := h3
  unfold mil at b1 b3
  have hm := mul_mil h1 h3
  refine q_eq (o + 2) 5 (by omega) (by decide) e0 rfl (fun q => ⟨fun z => h _ ?_, fun z => ⟨z, m_limited (fun v hv => h v ?_)⟩⟩) (fun q => q_eq (o + 2) 2 (by omega) (by decide) e0 rfl (fun q2 => m_limited (fun v hv => h v ?_)) (fun q2 => q_eq (o + 2) 3 (by omega) (by decide) e0 rfl (fun q3 => m_limited (fun v hv => h v ?_)) (fun q3 => m_limited (fun v hv => h v ?_))))
  · obtain rfl : o = 3 := by omega
    subst z
    rfl
  · obtain rfl : o = 3 := by omega
    have z2 : ¬ x3.toInt = 0 := fun q => z ((eq_L _ _).mpr q)
    have hd := tdiv_mil h1 z2
    unfold mil at hd
    have : (x1 / x3).toInt = x1.toInt.tdiv x3.toInt := by rw [Int64.toInt_div, fb_bmodL (by omega) (by omega)]
    rw [hv, this]
    show clp _ = clp (if x3.toInt = 0 then 0 else x1.toInt.tdiv x3.toInt)
    rw [if_neg z2]
  · obtain rfl : o = 0 := by omega
    rw [hv, fb_addL (by omega) (by omega)]
    rfl
  · obtain rfl : o = 1 := by omega
    rw [hv, fb_subL (by omega) (by omega)]
    rfl
  · obtain rfl : o = 2 := by omega
    rw [hv, fb_mulL (by omega) (by omega)]
    rfl
/-- the model's machine, from a token on -/
theorem m_rankL {x1 x2 : Int32} {K : MI → MJ → Prop} (W : WF (I 12 2)) (k r : Nat) (e1 : x1 = nI k) (e2 : x2 = nI r) (hk : k < mMany (I 12 2) (dn (I 12 2) 5)) (hr : r < 6) (hfit : mLen (I 12 2) (dn (I 12 2) 5) k ≤ mFree (I 12 2) r) :
    ∀ (L : List TK) (pre : Nat) (st : List Int) (J0 J : MJ) (x3 x4 : Int32), tkD L st.length = some 1 → stO (fun i => (J 12 14 i).toInt) st → bdd st → sJ2 J0 J →
      (∀ i, i < (L.flatMap tkM).length → dn (I 12 2) (602 + (pre + i)) = (L.flatMap tkM).getD i 0) → pre + (L.flatMap tkM).length = dn (I 12 2) 9 → st.length ≤ 11 → x3 = nI st.length → x4 = nI pre →
      (∀ J2 : MJ, sJ2 J0 J2 → stO (fun i => (J2 12 14 i).toInt) (evL (fun j => (mFact (I 12 2) k r j : Int)) L st) → K I J2) → f_X8_rankOf_L35 x1 x2 K (L.length + 1) x3 x4 I J := by
  have c9 : I 12 2 (9 : Int32).toNatClampNeg = nI (dn (I 12 2) 9) := wf_c W (okc_lo (i := 9) (by decide))
  have h9 : dn (I 12 2) 9 ≤ 1200 := W.2.1.2.2.2.2.2.2.2.2.2.1
  have cc : ∀ i, i < 1200 → ∀ {z : Int32}, z = nI i → vp_in ((602 : Int32) + z) 1802 ∧ I 12 2 ((602 : Int32) + z).toNatClampNeg = nI (dn (I 12 2) (602 + i)) := fun i hi z ez => by
    have e : (602 : Int32) + z = nI (602 + i) := by rw [ez, nlit 602, nI_add]
    refine ⟨vin _ _ (by omega) (by decide) e, ?_⟩
    rw [cln (by omega) e]
    exact wf_c W ⟨by omega, fun q hq => by omega, fun p hp => by omega⟩
  intro L
  induction L with
  | nil =>
    intro pre st J0 J x3 x4 hD hO hB hS hC hl h11 e3 e4 h
    show f_X8_rankOf_B35 x1 x2 K _ x3 x4 I J
    refine ⟨vin 9 _ (by decide) (by decide) rfl, q_t ?_ (h J hS hO)⟩
    rw [c9, e4]
    exact nI_le (by simp at hl; omega) (by omega)
  | cons t l ih =>
    intro pre st J0 J x3 x4 hD hO hB hS hC hl h11 e3 e4 h
    show f_X8_rankOf_B35 x1 x2 K (f_X8_rankOf_L35 x1 x2 K (l.length + 1)) x3 x4 I J
    have hmem : ∀ {z : Int}, z ∈ st → mil z := fun hz => hB _ hz
    obtain ⟨o, v⟩ := t
    have hpre : pre < dn (I 12 2) 9 := by
      rw [← hl, List.flatMap_cons, List.length_append]
      have : 0 < (tkM (o, v)).length := by
        match o with
        | 0 => simp [tkM]
        | 1 => simp [tkM]
        | o + 2 => simp [tkM]
      omega
    obtain ⟨v4, g4⟩ := cc pre (by omega) e4
    refine ⟨vin 9 _ (by decide) (by decide) rfl, q_f (by rw [c9, e4]; exact nge hpre (by omega)) ⟨v4, fun x5 e5 => ?_⟩⟩
    rw [g4] at e5
    match o with
    | 0 =>
      obtain ⟨⟨hv, hn⟩, hD2⟩ := tkD_0 hD
      have a0 : dn (I 12 2) (602 + pre) = 0 := hC 0 (by simp [tkM])
      have a1 : dn (I 12 2) (602 + (pre + 1)) = v := hC 1 (by simp [tkM])
      rw [a0] at e5
      refine q_f (by rw [e5]; decide) (fun y ey => ?_)
      have ey2 : y = nI (pre + 1) := by rw [ey, e4, nI_1]
      have hl2 : (tkM (0, v) ++ l.flatMap tkM).length = 2 + (l.flatMap tkM).length := by simp [tkM]; omega
      rw [List.flatMap_cons] at hl hC
      rw [hl2] at hl
      obtain ⟨v5, g5⟩ := cc (pre + 1) (by omega) ey2
      refine q_t e5 ⟨v5, vin st.length 1200 (by omega) (by decide) e3, fun J2 eJ z ez w ew => ?_⟩
      rw [cln (by omega) e3, g5, a1] at eJ
      refine ih (pre + 2) ((v : Int) :: st) J0 J2 z w hD2 ⟨?_, stO_cong (fun j hj => ?_) hO⟩ (bdd_c (by unfold mil; omega) hB) (hS.put eJ) (fun i hi => ?_) (by omega) (by simp; omega) (by rw [ez, e3]; exact nI_1 _) (by rw [ew, ey2]; exact nI_1 _) h
      · show (J2 12 14 st.length).toInt = (v : Int)
        rw [eJ, sJ_at, Int32.toInt_toInt64, nI_toInt (by omega)]
      · show (J2 12 14 j).toInt = (J 12 14 j).toInt
        rw [eJ, sJ_ot _ _ _ _ (by omega)]
      · have := hC (i + 2) (by rw [hl2]; omega)
        rw [show pre + 2 + i = pre + (i + 2) by omega, this]
        simp [tkM]
    | 1 =>
      obtain ⟨⟨hv, hn⟩, hD2⟩ := tkD_1 hD
      have a0 : dn (I 12 2) (602 + pre) = 1 := hC 0 (by simp [tkM])
      have a1 : dn (I 12 2) (602 + (pre + 1)) = v := hC 1 (by simp [tkM])
      rw [a0] at e5
      refine q_f (by rw [e5]; decide) (fun y ey => ?_)
      have ey2 : y = nI (pre + 1) := by rw [ey, e4, nI_1]
      have hl2 : (tkM (1, v) ++ l.flatMap tkM).length = 2 + (l.flatMap tkM).length := by simp [tkM]; omega
      rw [List.flatMap_cons] at hl hC
      rw [hl2] at hl
      obtain ⟨v5, g5⟩ := cc (pre + 1) (by omega) ey2
      have hF := mFact_lt W hk hr v
      refine q_f (by rw [e5]; decide) ⟨v5, ?_⟩
      rw [g5, a1]
      refine m_fact W v k r rfl e1 e2 hv hk hr hfit ⟨vin st.length 1200 (by omega) (by decide) e3, fun J2 eJ z ez w ew => ?_⟩
      rw [cln (by omega) e3] at eJ
      refine ih (pre + 2) ((mFact (I 12 2) k r v : Int) :: st) J0 J2 z w hD2 ⟨?_, stO_cong (fun j hj => ?_) hO⟩ (bdd_c (by unfold mil; omega) hB) (hS.put eJ) (fun i hi => ?_) (by omega) (by simp; omega) (by rw [ez, e3]; exact nI_1 _) (by rw [ew, ey2]; exact nI_1 _) h
      · show (J2 12 14 st.length).toInt = (mFact (I 12 2) k r v : Int)
        rw [eJ, sJ_at, Int32.toInt_toInt64, nI_toInt (by omega)]
      · show (J2 12 14 j).toInt = (J 12 14 j).toInt
        rw [eJ, sJ_ot _ _ _ _ (by omega)]
      · have := hC (i + 2) (by rw [hl2]; omega)
        rw [show pre + 2 + i = pre + (i + 2) by omega, this]
        simp [tkM]
    | o + 2 =>
      obtain ⟨⟨hv, hn⟩, hD2⟩ := tkD_2 hD
      have a0 : dn (I 12 2) (602 + pre) = o + 2 := hC 0 (by simp [tkM])
      rw [a0] at e5
      have hl2 : (tkM (o + 2, v) ++ l.flatMap tkM).length = 1 + (l.flatMap tkM).length := by simp [tkM]; omega
      rw [List.flatMap_cons] at hl hC
      rw [hl2] at hl
      match st, hn, hO, hB, h11, e3, hD2, h with
      | bz :: az :: t, hn, hO, hB, h11, e3, hD2, h =>
        obtain ⟨ob, oa, ot⟩ := hO
        have e3' : x3 = nI (t.length + 2) := e3
        have hb := hB bz (by simp)
        have ha := hB az (by simp)
        have h11' : t.length + 2 ≤ 11 := h11
        refine q_t (by rw [e5]; exact nI_lt (a := 1) (by omega) (by omega)) (fun y ey => ?_)
        have ey2 : y = nI (t.length + 1) := by rw [ey, e3']; exact pk_m1 _
        have ey3 : y - (1 : Int32) = nI t.length := by rw [ey2]; exact nI_pred _
        have ob2 : (J 12 14 (t.length + 1)).toInt = bz := ob
        have oa2 : (J 12 14 t.length).toInt = az := oa
        refine ⟨vin t.length 1200 (by omega) (by decide) ey3, vin (t.length + 1) 1200 (by omega) (by decide) ey2, ?_⟩
        rw [cln (by omega) ey3, cln (by omega) ey2]
        refine m_operate o e5 hv (by rw [oa2]; exact ha) (by rw [ob2]; exact hb) (fun w hw => ⟨vin t.length 1200 (by omega) (by decide) ey3, fun J2 eJ z ez => ?_⟩)
        rw [oa2, ob2] at hw
        have hop : mil (opZ o az bz) := clp_mil _
        refine ih (pre + 1) (opZ o az bz :: t) J0 J2 y z hD2 ⟨?_, stO_cong (fun j hj => ?_) ot⟩ (bdd_c hop (fun q hq => hB q (by simp [hq]))) (hS.put eJ) (fun i hi => ?_) (by omega) (by simp; omega) ey2 (by rw [ez, e4]; exact nI_1 _) h
        · show (J2 12 14 t.length).toInt = opZ o az bz
          rw [eJ, sJ_at, hw]
        · show (J2 12 14 j).toInt = (J 12 14 j).toInt
          rw [eJ, sJ_ot _ _ _ _ (by omega)]
        · have := hC (i + 1) (by rw [hl2]; omega)
          rw [show pre + 1 + i = pre + (i + 1) by omega, this]
          simp [tkM]
end M2
/-- a play's rank -/
def mRank (d : Nat → Int32) (L : List TK) (k r : Nat) : Int := (evL (fun j => (mFact d k r j : Int)) L []).headD 0
/-- the tokens of the model's data: none told means the points -/
def mTok (d : Nat → Int32) (L : List TK) : Prop := tkD L 0 = some 1 ∧ L.length ≤ 600 ∧ (dn d 8 = 0 → L = [(1, 0)]) ∧ (dn d 8 ≠ 0 → dn d 9 = (L.flatMap tkM).length ∧ ∀ i, i < dn d 9 → dn d (602 + i) = (L.flatMap tkM).getD i 0)
theorem evL_len (F : Nat → Int) : ∀ (L : List TK) (st : List Int) (z : Nat), tkD L st.length = some z → (evL F L st).length = z
  | [], st, z, h => Option.some.inj h
  | (0, v) :: l, st, z, h => evL_len F l ((v : Int) :: st) z (tkD_0 h).2
  | (1, v) :: l, st, z, h => evL_len F l (F v :: st) z (tkD_1 h).2
  | (o + 2, v) :: l, [], z, h => absurd (tkD_2 h).1.2 (by simp)
  | (o + 2, v) :: l, [a], z, h => absurd (tkD_2 h).1.2 (by simp)
  | (o + 2, v) :: l, b :: a :: t, z, h => evL_len F l (opZ o a b :: t) z (tkD_2 h).2
theorem evL_bdd (F : Nat → Int) (hF : ∀ j, mil (F j)) : ∀ (L : List TK) (st : List Int) (z : Nat), tkD L st.length = some z → bdd st → bdd (evL F L st)
  | [], st, z, h, hb => hb
  | (0, v) :: l, st, z, h, hb => evL_bdd F hF l ((v : Int) :: st) z (tkD_0 h).2 (bdd_c (by have := (tkD_0 h).1; unfold mil; omega) hb)
  | (1, v) :: l, st, z, h, hb => evL_bdd F hF l (F v :: st) z (tkD_1 h).2 (bdd_c (hF v) hb)
  | (o + 2, v) :: l, [], z, h, hb => absurd (tkD_2 h).1.2 (by simp)
  | (o + 2, v) :: l, [a], z, h, hb => absurd (tkD_2 h).1.2 (by simp)
  | (o + 2, v) :: l, b :: a :: t, z, h, hb => evL_bdd F hF l (opZ o a b :: t) z (tkD_2 h).2 (bdd_c (clp_mil _) (fun q hq => hb q (by simp [hq])))
theorem mRank_mil {d : Nat → Int32} (W : WF d) {L : List TK} (T : mTok d L) {k r : Nat} (hk : k < mMany d (dn d 5)) (hr : r < 6) : mil (mRank d L k r) := by
  have hF : ∀ j, mil ((mFact d k r j : Nat) : Int) := fun j => by have := mFact_lt W hk hr j; unfold mil; omega
  have h1 := evL_len (fun j => (mFact d k r j : Int)) L [] 1 T.1
  have h2 := evL_bdd (fun j => (mFact d k r j : Int)) hF L [] 1 T.1 (fun _ h => absurd h List.not_mem_nil)
  unfold mRank
  match hE : evL (fun j => (mFact d k r j : Int)) L [], h1 with
  | [z], _ =>
    rw [hE] at h2
    exact h2 z (by simp)
theorem m_rankOf {I : MI} {J : MJ} {x1 x2 : Int32} {Q : Int32 → MI → MJ → Prop} (W : WF (I 12 2)) (L : List TK) (T : mTok (I 12 2) L) (k r : Nat) (e1 : x1 = nI k) (e2 : x2 = nI r) (hk : k < mMany (I 12 2) (dn (I 12 2) 5)) (hr : r < 6) (hfit : mLen (I 12 2) (dn (I 12 2) 5) k ≤ mFree (I 12 2) r)
    (h : ∀ (v : Int32) (J2 : MJ), sJ2 J J2 → v.toInt = mRank (I 12 2) L k r → Q v I J2) : f_X8_rankOf x1 x2 I J Q := by
  have hp := wf_turn W
  have b8 : dn (I 12 2) 8 ≤ 1 := W.2.1.2.2.2.2.2.2.2.2.1
  have hF := mFact_lt W hk hr 0
  obtain ⟨T1, T2, T3, T4⟩ := T
  refine ⟨vin 8 _ (by decide) (by decide) rfl, q_eq (dn (I 12 2) 8) 0 (by omega) (by decide) (wf_c W (okc_lo (i := 8) (by decide))) rfl (fun q => ⟨vin 5 _ (by decide) (by decide) rfl, ?_⟩) (fun q => ⟨vin 0 _ (by decide) (by decide) rfl, fun J4 e4 => ?_⟩)⟩
  · refine m_pointsFor W _ k r (c5 W) e1 e2 hp hk hr (h _ J sJ2.rfl ?_)
    rw [T3 q, nI_toInt (by have : mPts (I 12 2) (dn (I 12 2) 5) k r < 10000 := hF; omega)]
    rfl
  · obtain ⟨h9, hC⟩ := T4 q
    refine ⟨L.length + 1, m_rankL W k r e1 e2 hk hr hfit L 0 [] J J4 0 0 T1 trivial (fun _ h => absurd h List.not_mem_nil) (sJ2.rfl.put e4) (fun i hi => ?_) (by rw [Nat.zero_add]; exact h9.symm) (by simp) rfl rfl (fun J2 hS hO => ⟨vin 0 _ (by decide) (by decide) rfl, h _ J2 hS ?_⟩)⟩
    · rw [Nat.zero_add]
      exact hC i (by rw [h9]; exact hi)
    · have hlen := evL_len (fun j => (mFact (I 12 2) k r j : Int)) L [] 1 T1
      have hm := mRank_mil W ⟨T1, T2, T3, T4⟩ hk hr
      unfold mRank at hm ⊢
      match hE : evL (fun j => (mFact (I 12 2) k r j : Int)) L [], hlen with
      | [z], _ =>
        rw [hE] at hO hm
        have o1 : (J2 12 14 0).toInt = z := hO.1
        have hz : mil z := hm
        unfold mil at hz
        show (J2 12 14 0).toInt32.toInt = z
        rw [Int64.toInt_toInt32, o1, fb_bmod (by omega) (by omega)]
