/-! A RANK'S VALUE: the class' machine -/
def sI2 (b : Nat) (I I2 : MI) : Prop := ∀ b' r, ¬ (b' = b ∧ (r = 6 ∨ r = 15)) → I2 b' r = I b' r
theorem sI2.rfl {b : Nat} {I : MI} : sI2 b I I := fun _ _ _ => Eq.refl _
theorem sI2.put6 {b : Nat} {I I2 I3 : MI} {i : Nat} {v : Int32} (h : sI2 b I I2) (e : I3 = sI I2 b 6 i v) : sI2 b I I3 := fun b' r q => by
  rw [e]; unfold sI; rw [rI_ne (fun z => q ⟨z.1, Or.inl z.2⟩)]; exact h b' r q
theorem sI2.put15 {b : Nat} {I I2 I3 : MI} {i : Nat} {v : Int32} (h : sI2 b I I2) (e : I3 = sI I2 b 15 i v) : sI2 b I I3 := fun b' r q => by
  rw [e]; unfold sI; rw [rI_ne (fun z => q ⟨z.1, Or.inr z.2⟩)]; exact h b' r q
theorem sI2.trans {b : Nat} {I I2 I3 : MI} (h : sI2 b I I2) (h2 : sI2 b I2 I3) : sI2 b I I3 := fun b' r q => (h2 b' r q).trans (h b' r q)
theorem sI2.at {b : Nat} {I I2 : MI} (h : sI2 b I I2) (r : Nat) (h6 : r ≠ 6) (h15 : r ≠ 15) : I2 b r = I b r := h b r (fun z => z.2.elim h6 h15)
theorem RC_keep {I I2 : MI} {J : MJ} {b : Nat} {d : Nat → Int32} (C : RC I J b d) (h : sI2 b I I2) : RC I2 J b d := by
  unfold RC RG RK at C ⊢
  rw [h.at 0 (by decide) (by decide), h.at 1 (by decide) (by decide), h.at 2 (by decide) (by decide), h.at 3 (by decide) (by decide), h.at 4 (by decide) (by decide), h.at 5 (by decide) (by decide), h.at 7 (by decide) (by decide), h.at 8 (by decide) (by decide), h.at 9 (by decide) (by decide), h.at 11 (by decide) (by decide), h.at 13 (by decide) (by decide), h.at 14 (by decide) (by decide)]
  exact C
theorem neg6_le {v : Nat} (h : v < 2 ^ 31) : (-6 : Int32) ≤ nI v := by
  rw [Int32.le_iff_toInt_le, nI_toInt h]
  show (-6 : Int) ≤ (v : Int)
  omega
section M3
variable {I : MI} {J : MJ} {b : Nat}
theorem g_res71 {x : Int64} {Q : Int32 → MI → MJ → Prop} (h : ∀ v : Int32, v.toInt = clp x.toInt → Q v I J) : f_X3_result_J71 Q x I J := by
  unfold f_X3_result_J71
  unfold clp at h
  refine ⟨fun q => h _ ?_, fun q => ⟨fun q2 => h _ ?_, fun q2 => h _ ?_⟩⟩
  · rw [lt_L, show ((1000000 : Int64)).toInt = 1000000 from rfl] at q
    rw [if_pos q]; rfl
  · rw [lt_L, show ((1000000 : Int64)).toInt = 1000000 from rfl] at q
    rw [lt_L, show ((-1000000 : Int64)).toInt = -1000000 from rfl] at q2
    rw [if_neg q, if_pos q2]; rfl
  · rw [lt_L, show ((1000000 : Int64)).toInt = 1000000 from rfl] at q
    rw [lt_L, show ((-1000000 : Int64)).toInt = -1000000 from rfl] at q2
    rw [if_neg q, if_neg q2, Int64.toInt_toInt32, fb_bmod (by omega) (by omega)]
theorem g_result {x0 : Int32} {x1 x3 : Int64} {Q : Int32 → MI → MJ → Prop} (o : Nat) (e0 : x0 = -nI (o + 7)) (ho : o ≤ 3) (h1 : mil x1.toInt) (h3 : mil x3.toInt) (h : ∀ v : Int32, v.toInt = opZ o x1.toInt x3.toInt → Q v I J) : f_X3_result x0 x1 x3 I J Q := by
  have b1 := h1
  have b3 := h3
  unfold mil at b1 b3
  have hm := mul_mil h1 h3
  subst e0
  match o, ho with
  | 0, _ =>
    refine q_f (by decide) (q_f (by decide) (q_t (by decide) (fun z ez => g_res71 (fun v hv => h v ?_))))
    rw [hv, ez, fb_addL (by omega) (by omega)]
    rfl
  | 1, _ =>
    refine q_f (by decide) (q_t (by decide) (fun z ez => g_res71 (fun v hv => h v ?_)))
    rw [hv, ez, fb_subL (by omega) (by omega)]
    rfl
  | 2, _ =>
    refine q_t (by decide) (fun z ez => g_res71 (fun v hv => h v ?_))
    rw [hv, ez, fb_mulL (by omega) (by omega)]
    rfl
  | 3, _ =>
    refine q_f (by decide) (q_f (by decide) (q_f (by decide) ⟨fun z => g_res71 (fun v hv => h v ?_), fun z => ⟨z, g_res71 (fun v hv => h v ?_)⟩⟩))
    · subst z
      rw [hv]
      rfl
    · have z2 : ¬ x3.toInt = 0 := fun q => z ((eq_L _ _).mpr q)
      have hd := tdiv_mil h1 z2
      unfold mil at hd
      have : (x1 / x3).toInt = x1.toInt.tdiv x3.toInt := by rw [Int64.toInt_div, fb_bmodL (by omega) (by omega)]
      rw [hv, this]
      show clp _ = clp (if x3.toInt = 0 then 0 else x1.toInt.tdiv x3.toInt)
      rw [if_neg z2]
theorem idx_k : ∀ k, k < 6 → (-1 : Int32) - -nI (k + 1) = nI k := by decide +kernel
theorem neg_k : ∀ k, k < 6 → (-6 : Int32) ≤ -nI (k + 1) ∧ -nI (k + 1) < 0 := by decide +kernel
theorem neg_o : ∀ o, o < 4 → ¬ (-6 : Int32) ≤ -nI (o + 7) := by decide +kernel
/-- the class' machine, from a token on -/
theorem g_valueL {K : MI → MJ → Prop} (F : Nat → Int) (hF : ∀ j, mil (F j)) (tot : Nat) (htot : tot ≤ 600) :
    ∀ (L : List TK) (pre : Nat) (st : List Int) (I0 I : MI) (x2 x3 : Int32), tkD L st.length = some 1 → stO (fun i => (I b 6 i).toInt) st → bdd st → sI2 b I0 I →
      I b 2 2 = nI tot → (∀ i, i < L.length → I b 5 (pre + i) = tkC (L.getD i (0, 0))) → (∀ j, j ≤ 5 → (I b 15 j).toInt = F j) → pre + L.length = tot → st.length ≤ 11 → x2 = nI st.length → x3 = nI pre →
      (∀ I2 : MI, sI2 b I0 I2 → stO (fun i => (I2 b 6 i).toInt) (evL F L st) → K I2 J) → f_X3_value_L4 b K (L.length + 1) x2 x3 I J := by
  intro L
  induction L with
  | nil =>
    intro pre st I0 I x2 x3 hD hO hB hS hT hC hX hl h11 e2 e3 h
    show f_X3_value_B4 b K _ x2 x3 I J
    refine q_t ?_ (h I hS hO)
    rw [hT, e3]
    exact nI_le (by simp at hl; omega) (by simp at hl; omega)
  | cons t l ih =>
    intro pre st I0 I x2 x3 hD hO hB hS hT hC hX hl h11 e2 e3 h
    show f_X3_value_B4 b K (f_X3_value_L4 b K (l.length + 1)) x2 x3 I J
    have hl' : pre + (l.length + 1) = tot := hl
    obtain ⟨o, v⟩ := t
    have c0 : I b 5 pre = tkC (o, v) := hC 0 (by simp)
    have hC2 : ∀ (I2 : MI), I2 b 5 = I b 5 → ∀ i, i < l.length → I2 b 5 (pre + 1 + i) = tkC (l.getD i (0, 0)) := fun I2 hI i hi => by
      have := hC (i + 1) (by simp; omega)
      rw [hI, show pre + 1 + i = pre + (i + 1) by omega, this]
      simp
    refine q_f (by rw [hT, e3]; exact nge (by omega) (by omega)) ⟨vin pre 600 (by omega) (by decide) e3, fun x4 e4 => ?_⟩
    rw [cln (by omega) e3, c0] at e4
    match o with
    | 0 =>
      obtain ⟨⟨hv, hn⟩, hD2⟩ := tkD_0 hD
      have e4' : x4 = nI v := e4
      refine q_t (by rw [e4']; exact neg6_le (by omega)) (q_f (by rw [e2]; exact nge (n := 16) (by omega) (by decide)) (q_f (by rw [e4']; exact nI_pos (by omega)) ⟨vin st.length 16 (by omega) (by decide) e2, fun I2 eI z ez w ew => ?_⟩))
      rw [cln (by omega) e2] at eI
      have k5 : I2 b 5 = I b 5 := by rw [eI]; exact rI_ne (fun z => absurd z.2 (by decide))
      have k2 : I2 b 2 = I b 2 := by rw [eI]; exact rI_ne (fun z => absurd z.2 (by decide))
      have k15 : I2 b 15 = I b 15 := by rw [eI]; exact rI_ne (fun z => absurd z.2 (by decide))
      refine ih (pre + 1) ((v : Int) :: st) I0 I2 z w hD2 ⟨?_, stO_cong (fun j hj => ?_) hO⟩ (bdd_c (by unfold mil; omega) hB) (hS.put6 eI) (by rw [k2]; exact hT) (hC2 I2 k5) (by rw [k15]; exact hX) (by omega) (by simp; omega) (by rw [ez, e2]; exact nI_1 _) (by rw [ew, e3]; exact nI_1 _) h
      · show (I2 b 6 st.length).toInt = (v : Int)
        rw [eI, sI_at, e4', nI_toInt (by omega)]
      · show (I2 b 6 j).toInt = (I b 6 j).toInt
        rw [eI, sI_ot _ _ _ _ (by omega)]
    | 1 =>
      obtain ⟨⟨hv, hn⟩, hD2⟩ := tkD_1 hD
      have e4' : x4 = -nI (v + 1) := e4
      have hk := neg_k v (by omega)
      refine q_t (by rw [e4']; exact hk.1) (q_f (by rw [e2]; exact nge (n := 16) (by omega) (by decide)) (q_t (by rw [e4']; exact hk.2) ?_))
      show vp_in ((-1 : Int32) - x4) 6 ∧ _
      rw [e4', idx_k v (by omega), nI_clamp (by omega)]
      refine ⟨vp_in_nI (by omega) (by decide), vin st.length 16 (by omega) (by decide) e2, fun I2 eI z ez w ew => ?_⟩
      rw [cln (by omega) e2] at eI
      have k5 : I2 b 5 = I b 5 := by rw [eI]; exact rI_ne (fun z => absurd z.2 (by decide))
      have k2 : I2 b 2 = I b 2 := by rw [eI]; exact rI_ne (fun z => absurd z.2 (by decide))
      have k15 : I2 b 15 = I b 15 := by rw [eI]; exact rI_ne (fun z => absurd z.2 (by decide))
      refine ih (pre + 1) (F v :: st) I0 I2 z w hD2 ⟨?_, stO_cong (fun j hj => ?_) hO⟩ (bdd_c (hF v) hB) (hS.put6 eI) (by rw [k2]; exact hT) (hC2 I2 k5) (by rw [k15]; exact hX) (by omega) (by simp; omega) (by rw [ez, e2]; exact nI_1 _) (by rw [ew, e3]; exact nI_1 _) h
      · show (I2 b 6 st.length).toInt = F v
        rw [eI, sI_at, hX v hv]
      · show (I2 b 6 j).toInt = (I b 6 j).toInt
        rw [eI, sI_ot _ _ _ _ (by omega)]
    | o + 2 =>
      obtain ⟨⟨hv, hn⟩, hD2⟩ := tkD_2 hD
      have e4' : x4 = -nI (o + 7) := e4
      match st, hn, hO, hB, h11, e2, hD2, h with
      | bz :: az :: t, hn, hO, hB, h11, e2, hD2, h =>
        obtain ⟨ob, oa, ot⟩ := hO
        have e2' : x2 = nI (t.length + 2) := e2
        have hb := hB bz (by simp)
        have ha := hB az (by simp)
        have h11' : t.length + 2 ≤ 11 := h11
        refine q_f (by rw [e4']; exact neg_o o (by omega)) (q_f (by rw [e2']; exact nI_nlt (b := 2) (by omega) (by omega)) (fun y ey => ?_))
        have ey2 : y = nI (t.length + 1) := by rw [ey, e2']; exact pk_m1 _
        have ey3 : y - (1 : Int32) = nI t.length := by rw [ey2]; exact nI_pred _
        have ob2 : (I b 6 (t.length + 1)).toInt64.toInt = bz := (Int32.toInt_toInt64 _).trans ob
        have oa2 : (I b 6 t.length).toInt64.toInt = az := (Int32.toInt_toInt64 _).trans oa
        refine ⟨vin t.length 16 (by omega) (by decide) ey3, vin (t.length + 1) 16 (by omega) (by decide) ey2, ?_⟩
        rw [cln (by omega) ey3, cln (by omega) ey2]
        refine g_result o e4' hv (by rw [oa2]; exact ha) (by rw [ob2]; exact hb) (fun w hw => ⟨vin t.length 16 (by omega) (by decide) ey3, fun I2 eI z ez => ?_⟩)
        rw [oa2, ob2] at hw
        have hop : mil (opZ o az bz) := clp_mil _
        have k5 : I2 b 5 = I b 5 := by rw [eI]; exact rI_ne (fun z => absurd z.2 (by decide))
        have k2 : I2 b 2 = I b 2 := by rw [eI]; exact rI_ne (fun z => absurd z.2 (by decide))
        have k15 : I2 b 15 = I b 15 := by rw [eI]; exact rI_ne (fun z => absurd z.2 (by decide))
        refine ih (pre + 1) (opZ o az bz :: t) I0 I2 y z hD2 ⟨?_, stO_cong (fun j hj => ?_) ot⟩ (bdd_c hop (fun q hq => hB q (by simp [hq]))) (hS.put6 eI) (by rw [k2]; exact hT) (hC2 I2 k5) (by rw [k15]; exact hX) (by omega) (by simp; omega) ey2 (by rw [ez, e3]; exact nI_1 _) h
        · show (I2 b 6 t.length).toInt = opZ o az bz
          rw [eI, sI_at, hw]
        · show (I2 b 6 j).toInt = (I b 6 j).toInt
          rw [eI, sI_ot _ _ _ _ (by omega)]
end M3
