abbrev rmX8_rhyme : Room := { frames := 4, cells := 0, slots := 0, locals := 86 }
theorem yk_X8_rhyme : yOk yX8_rhyme RX8 3 := by unfold yOk; decide +kernel
def f_X8_rhyme (x1 : Int32) (x2 : Int32) (x3 : Int32) (I : MI) (J : MJ) (Q : Int32 → MI → MJ → Prop) : Prop :=
  ∀ I_1 : MI, I_1 = sI I 12 0 0 (0 : Int32) → f_X8_noWord x1 x2 I_1 J (fun (v_4 : Int32) (I_2 : MI) (J_3 : MJ) => ((v_4 = (0 : Int32) → f_X8_noRow x3 I_2 J_3 (fun (v_8 : Int32) (I_6 : MI) (J_7 : MJ) => ((v_8 = (0 : Int32) → f_X8_ofRow x3 (2 : Int32) I_6 J_7 (fun (v_12 : Int32) (I_10 : MI) (J_11 : MJ) => ((v_12 = (0 : Int32) → Q (-1 : Int32) I_10 J_11) ∧ (¬ v_12 = (0 : Int32) → f_X8_rhymeWith x1 x2 x3 I_10 J_11 (fun (v_16 : Int32) (I_14 : MI) (J_15 : MJ) => Q v_16 I_14 J_15))))) ∧ (¬ v_8 = (0 : Int32) → Q (0 : Int32) I_6 J_7)))) ∧ (¬ v_4 = (0 : Int32) → Q (0 : Int32) I_2 J_3)))
set_option maxRecDepth 100000 in
set_option maxHeartbeats 4000000 in
theorem c_X8_rhyme {l : Launch} {E : EV} {ps : List (Nat × Nat)} (h12 : ∀ r, r < 17 → (12, r) ∈ ps) {x1 : Int32} {x2 : Int32} {x3 : Int32} {I : MI} {J : MJ} {Q : Int32 → MI → MJ → Prop} (hf : f_X8_rhyme x1 x2 x3 I J Q) : KI l yX8_rhyme wsX8_rhyme rmX8_rhyme E ps [.ref (eA E 12 0), .int x1, .int x2, .int x3] I J Q := by
  refine K_ofI (cc := cX8_rhyme) (maxL := 4) (ty := .int) (by decide +kernel) rfl (Nat.le_of_ble_eq_true rfl) (fun p e s m args below meth c Qm hret S hK hX => ?_)
  have hA : ∀ q, s.heap.size ≤ q → AA E ps s.heap.size q := fun _ h => Or.inr h
  have k1 := S.2.2.2.2 (.fieldLink RX8 49 "RhymeRoofsModel" "thrown" "I") (by decide +kernel)
  have iX8 : ∀ w ∈ wsX80, w ∈ wsX8_rhyme := fun _ h => List.mem_cons_of_mem _ (List.mem_append_right _ h)
  intro H locs ls hP hD hS hl
  unfold f_X8_rhyme at hf
  refine lv_aload_n S.1 S.2.1 dX8_rhyme_0 rfl (lv_at hl 0 rfl) ?_
  refine lv_iconst (v := 0) S.1 S.2.1 dX8_rhyme_1 rfl ?_
  refine nm_o hf (fun I_1 eI_1 hf => ?_)
  refine pfX8_0 S iX8 hK hP hD hS (h12 0 (by decide)) k1 dX8_rhyme_2 eI_1 (fun H locs hP hD hS => ?_)
  refine lv_aload_n S.1 S.2.1 dX8_rhyme_5 rfl (lv_at hl 0 rfl) ?_
  refine lv_iload_n S.1 S.2.1 dX8_rhyme_6 rfl (lv_at hl 1 rfl) ?_
  refine lv_iload_n S.1 S.2.1 dX8_rhyme_7 rfl (lv_at hl 2 rfl) ?_
  refine R_cVi (As := [.int x1, .int x2]) (rest := []) S (c_X8_noWord (h12 := h12)  hf) gX8_rhyme_X8_noWord rfl yk_X8_noWord ⟨⟨Nat.le_of_ble_eq_true rfl, Nat.le_of_ble_eq_true rfl⟩, rfl, rfl⟩ hK hP hD hS hX hA (h12 0 (by decide)) (cF_m E _ _ 0) rfl rfl hl.1 rfl (Nat.le_of_ble_eq_true rfl) ⟨Nat.zero_le _, Nat.zero_le _⟩ dX8_rhyme_8 (fun v_4 I_2 J_3 H locs hf hP hD hS => ?_)
  refine lv_if_ne (tgt := 22) S.1 S.2.1 dX8_rhyme_11 (by decide) (fun h_5 => ?_) (fun h_5 => ?_)
  · have hf := hf.2 h_5
    refine lv_iconst (v := 0) S.1 S.2.1 dX8_rhyme_22 rfl ?_
    exact hret hf rfl hP hD hS dX8_rhyme_23
  · have hf := hf.1 h_5
    refine lv_aload_n S.1 S.2.1 dX8_rhyme_14 rfl (lv_at hl 0 rfl) ?_
    refine lv_iload_n S.1 S.2.1 dX8_rhyme_15 rfl (lv_at hl 3 rfl) ?_
    refine R_cVi (As := [.int x3]) (rest := []) S (c_X8_noRow (h12 := h12)  hf) gX8_rhyme_X8_noRow rfl yk_X8_noRow ⟨⟨Nat.le_of_ble_eq_true rfl, Nat.le_of_ble_eq_true rfl⟩, rfl, rfl⟩ hK hP hD hS hX hA (h12 0 (by decide)) (cF_m E _ _ 0) rfl rfl hl.1 rfl (Nat.le_of_ble_eq_true rfl) ⟨Nat.zero_le _, Nat.zero_le _⟩ dX8_rhyme_16 (fun v_8 I_6 J_7 H locs hf hP hD hS => ?_)
    refine lv_if_eq (tgt := 24) S.1 S.2.1 dX8_rhyme_19 (by decide) (fun h_9 => ?_) (fun h_9 => ?_)
    · have hf := hf.1 h_9
      refine lv_aload_n S.1 S.2.1 dX8_rhyme_24 rfl (lv_at hl 0 rfl) ?_
      refine lv_iload_n S.1 S.2.1 dX8_rhyme_25 rfl (lv_at hl 3 rfl) ?_
      refine lv_iconst (v := 2) S.1 S.2.1 dX8_rhyme_26 rfl ?_
      refine R_cVi (As := [.int x3, .int (2 : Int32)]) (rest := []) S (c_X8_ofRow (h12 := h12)  hf) gX8_rhyme_X8_ofRow rfl yk_X8_ofRow ⟨⟨Nat.le_of_ble_eq_true rfl, Nat.le_of_ble_eq_true rfl⟩, rfl, rfl⟩ hK hP hD hS hX hA (h12 0 (by decide)) (cF_m E _ _ 0) rfl rfl hl.1 rfl (Nat.le_of_ble_eq_true rfl) ⟨Nat.zero_le _, Nat.zero_le _⟩ dX8_rhyme_27 (fun v_12 I_10 J_11 H locs hf hP hD hS => ?_)
      refine lv_if_ne (tgt := 37) S.1 S.2.1 dX8_rhyme_30 (by decide) (fun h_13 => ?_) (fun h_13 => ?_)
      · have hf := hf.2 h_13
        refine lv_aload_n S.1 S.2.1 dX8_rhyme_37 rfl (lv_at hl 0 rfl) ?_
        refine lv_iload_n S.1 S.2.1 dX8_rhyme_38 rfl (lv_at hl 1 rfl) ?_
        refine lv_iload_n S.1 S.2.1 dX8_rhyme_39 rfl (lv_at hl 2 rfl) ?_
        refine lv_iload_n S.1 S.2.1 dX8_rhyme_40 rfl (lv_at hl 3 rfl) ?_
        refine R_cVi (As := [.int x1, .int x2, .int x3]) (rest := []) S (c_X8_rhymeWith (h12 := h12)  hf) gX8_rhyme_X8_rhymeWith rfl yk_X8_rhymeWith ⟨⟨Nat.le_of_ble_eq_true rfl, Nat.le_of_ble_eq_true rfl⟩, rfl, rfl⟩ hK hP hD hS hX hA (h12 0 (by decide)) (cF_m E _ _ 0) rfl rfl hl.1 rfl (Nat.le_of_ble_eq_true rfl) ⟨Nat.zero_le _, Nat.zero_le _⟩ dX8_rhyme_41 (fun v_16 I_14 J_15 H locs hf hP hD hS => ?_)
        exact hret hf rfl hP hD hS dX8_rhyme_44
      · have hf := hf.1 h_13
        refine lv_iconst (v := (-1)) S.1 S.2.1 dX8_rhyme_33 rfl ?_
        refine lv_goto (tgt := 44) S.1 S.2.1 dX8_rhyme_34 (by decide) ?_
        exact hret hf rfl hP hD hS dX8_rhyme_44
    · have hf := hf.2 h_9
      refine lv_iconst (v := 0) S.1 S.2.1 dX8_rhyme_22 rfl ?_
      exact hret hf rfl hP hD hS dX8_rhyme_23
abbrev rmX8_noPlay : Room := { frames := 3, cells := 0, slots := 0, locals := 65 }
theorem yk_X8_noPlay : yOk yX8_noPlay RX8 2 := by unfold yOk; decide +kernel
def f_X8_noPlay (x1 : Int32) (x2 : Int32) (I : MI) (J : MJ) (Q : Int32 → MI → MJ → Prop) : Prop :=
  (vp_in (5 : Int32) 1802 ∧ f_X8_noWord (I 12 2 (5 : Int32).toNatClampNeg) x1 I J (fun (v_4 : Int32) (I_2 : MI) (J_3 : MJ) => ((v_4 = (0 : Int32) → f_X8_noRow x2 I_2 J_3 (fun (v_8 : Int32) (I_6 : MI) (J_7 : MJ) => ((v_8 = (0 : Int32) → Q (0 : Int32) I_6 J_7) ∧ (¬ v_8 = (0 : Int32) → Q (1 : Int32) I_6 J_7)))) ∧ (¬ v_4 = (0 : Int32) → Q (1 : Int32) I_2 J_3))))
set_option maxRecDepth 100000 in
set_option maxHeartbeats 4000000 in
theorem c_X8_noPlay {l : Launch} {E : EV} {ps : List (Nat × Nat)} (h12 : ∀ r, r < 17 → (12, r) ∈ ps) {x1 : Int32} {x2 : Int32} {I : MI} {J : MJ} {Q : Int32 → MI → MJ → Prop} (hf : f_X8_noPlay x1 x2 I J Q) : KI l yX8_noPlay wsX8_noPlay rmX8_noPlay E ps [.ref (eA E 12 0), .int x1, .int x2] I J Q := by
  refine K_ofI (cc := cX8_noPlay) (maxL := 3) (ty := .boolean) (by decide +kernel) rfl (Nat.le_of_ble_eq_true rfl) (fun p e s m args below meth c Qm hret S hK hX => ?_)
  have hA : ∀ q, s.heap.size ≤ q → AA E ps s.heap.size q := fun _ h => Or.inr h
  have k1 := S.2.2.2.2 (.fieldLink RX8 17 "RhymeRoofsModel" "data" "[I") (by decide +kernel)
  have iX8 : ∀ w ∈ wsX80, w ∈ wsX8_noPlay := fun _ h => List.mem_cons_of_mem _ (List.mem_append_right _ h)
  intro H locs ls hP hD hS hl
  unfold f_X8_noPlay at hf
  refine lv_aload_n S.1 S.2.1 dX8_noPlay_0 rfl (lv_at hl 0 rfl) ?_
  refine lv_aload_n S.1 S.2.1 dX8_noPlay_1 rfl (lv_at hl 0 rfl) ?_
  refine gfX8_8 S iX8 hK hP (h12 0 (by decide)) k1 dX8_noPlay_2 ?_
  refine lv_iconst (v := 5) S.1 S.2.1 dX8_noPlay_5 rfl ?_
  obtain ⟨h_1, hf⟩ := hf
  refine R_iald S.1 S.2.1 hK hP (h12 2 (by decide)) (IAm2 E) h_1 dX8_noPlay_6 ?_
  refine lv_iload_n S.1 S.2.1 dX8_noPlay_7 rfl (lv_at hl 1 rfl) ?_
  refine R_cVi (As := [.int (I 12 2 (5 : Int32).toNatClampNeg), .int x1]) (rest := []) S (c_X8_noWord (h12 := h12)  hf) gX8_noPlay_X8_noWord rfl yk_X8_noWord ⟨⟨Nat.le_of_ble_eq_true rfl, Nat.le_of_ble_eq_true rfl⟩, rfl, rfl⟩ hK hP hD hS hX hA (h12 0 (by decide)) (cF_m E _ _ 0) rfl rfl hl.1 rfl (Nat.le_of_ble_eq_true rfl) ⟨Nat.zero_le _, Nat.zero_le _⟩ dX8_noPlay_8 (fun v_4 I_2 J_3 H locs hf hP hD hS => ?_)
  refine lv_if_ne (tgt := 22) S.1 S.2.1 dX8_noPlay_11 (by decide) (fun h_5 => ?_) (fun h_5 => ?_)
  · have hf := hf.2 h_5
    refine lv_iconst (v := 1) S.1 S.2.1 dX8_noPlay_22 rfl ?_
    refine lv_goto (tgt := 27) S.1 S.2.1 dX8_noPlay_23 (by decide) ?_
    exact hret hf rfl hP hD hS dX8_noPlay_27
  · have hf := hf.1 h_5
    refine lv_aload_n S.1 S.2.1 dX8_noPlay_14 rfl (lv_at hl 0 rfl) ?_
    refine lv_iload_n S.1 S.2.1 dX8_noPlay_15 rfl (lv_at hl 2 rfl) ?_
    refine R_cVi (As := [.int x2]) (rest := []) S (c_X8_noRow (h12 := h12)  hf) gX8_noPlay_X8_noRow rfl yk_X8_noRow ⟨⟨Nat.le_of_ble_eq_true rfl, Nat.le_of_ble_eq_true rfl⟩, rfl, rfl⟩ hK hP hD hS hX hA (h12 0 (by decide)) (cF_m E _ _ 0) rfl rfl hl.1 rfl (Nat.le_of_ble_eq_true rfl) ⟨Nat.zero_le _, Nat.zero_le _⟩ dX8_noPlay_16 (fun v_8 I_6 J_7 H locs hf hP hD hS => ?_)
    refine lv_if_eq (tgt := 26) S.1 S.2.1 dX8_noPlay_19 (by decide) (fun h_9 => ?_) (fun h_9 => ?_)
    · have hf := hf.1 h_9
      refine lv_iconst (v := 0) S.1 S.2.1 dX8_noPlay_26 rfl ?_
      exact hret hf rfl hP hD hS dX8_noPlay_27
    · have hf := hf.2 h_9
      refine lv_iconst (v := 1) S.1 S.2.1 dX8_noPlay_22 rfl ?_
      refine lv_goto (tgt := 27) S.1 S.2.1 dX8_noPlay_23 (by decide) ?_
      exact hret hf rfl hP hD hS dX8_noPlay_27
abbrev rmX8_why : Room := { frames := 6, cells := 0, slots := 0, locals := 131 }
theorem yk_X8_why : yOk yX8_why RX8 2 := by unfold yOk; decide +kernel
def f_X8_why (x1 : Int32) (x2 : Int32) (I : MI) (J : MJ) (Q : Int32 → MI → MJ → Prop) : Prop :=
  ∀ I_1 : MI, I_1 = sI I 12 0 0 (0 : Int32) → f_X8_noPlay x1 x2 I_1 J (fun (v_4 : Int32) (I_2 : MI) (J_3 : MJ) => ((v_4 = (0 : Int32) → f_X8_refusal x1 x2 I_2 J_3 (fun (v_8 : Int32) (I_6 : MI) (J_7 : MJ) => Q v_8 I_6 J_7)) ∧ (¬ v_4 = (0 : Int32) → Q (0 : Int32) I_2 J_3)))
set_option maxRecDepth 100000 in
set_option maxHeartbeats 4000000 in
theorem c_X8_why {l : Launch} {E : EV} {ps : List (Nat × Nat)} (h12 : ∀ r, r < 17 → (12, r) ∈ ps) {x1 : Int32} {x2 : Int32} {I : MI} {J : MJ} {Q : Int32 → MI → MJ → Prop} (hf : f_X8_why x1 x2 I J Q) : KI l yX8_why wsX8_why rmX8_why E ps [.ref (eA E 12 0), .int x1, .int x2] I J Q := by
  refine K_ofI (cc := cX8_why) (maxL := 3) (ty := .int) (by decide +kernel) rfl (Nat.le_of_ble_eq_true rfl) (fun p e s m args below meth c Qm hret S hK hX => ?_)
  have hA : ∀ q, s.heap.size ≤ q → AA E ps s.heap.size q := fun _ h => Or.inr h
  have k1 := S.2.2.2.2 (.fieldLink RX8 49 "RhymeRoofsModel" "thrown" "I") (by decide +kernel)
  have iX8 : ∀ w ∈ wsX80, w ∈ wsX8_why := fun _ h => List.mem_cons_of_mem _ (List.mem_append_right _ h)
  intro H locs ls hP hD hS hl
  unfold f_X8_why at hf
  refine lv_aload_n S.1 S.2.1 dX8_why_0 rfl (lv_at hl 0 rfl) ?_
  refine lv_iconst (v := 0) S.1 S.2.1 dX8_why_1 rfl ?_
  refine nm_o hf (fun I_1 eI_1 hf => ?_)
  refine pfX8_0 S iX8 hK hP hD hS (h12 0 (by decide)) k1 dX8_why_2 eI_1 (fun H locs hP hD hS => ?_)
  refine lv_aload_n S.1 S.2.1 dX8_why_5 rfl (lv_at hl 0 rfl) ?_
  refine lv_iload_n S.1 S.2.1 dX8_why_6 rfl (lv_at hl 1 rfl) ?_
  refine lv_iload_n S.1 S.2.1 dX8_why_7 rfl (lv_at hl 2 rfl) ?_
  refine R_cVi (As := [.int x1, .int x2]) (rest := []) S (c_X8_noPlay (h12 := h12)  hf) gX8_why_X8_noPlay rfl yk_X8_noPlay ⟨⟨Nat.le_of_ble_eq_true rfl, Nat.le_of_ble_eq_true rfl⟩, rfl, rfl⟩ hK hP hD hS hX hA (h12 0 (by decide)) (cF_m E _ _ 0) rfl rfl hl.1 rfl (Nat.le_of_ble_eq_true rfl) ⟨Nat.zero_le _, Nat.zero_le _⟩ dX8_why_8 (fun v_4 I_2 J_3 H locs hf hP hD hS => ?_)
  refine lv_if_eq (tgt := 18) S.1 S.2.1 dX8_why_11 (by decide) (fun h_5 => ?_) (fun h_5 => ?_)
  · have hf := hf.1 h_5
    refine lv_aload_n S.1 S.2.1 dX8_why_18 rfl (lv_at hl 0 rfl) ?_
    refine lv_iload_n S.1 S.2.1 dX8_why_19 rfl (lv_at hl 1 rfl) ?_
    refine lv_iload_n S.1 S.2.1 dX8_why_20 rfl (lv_at hl 2 rfl) ?_
    refine R_cVi (As := [.int x1, .int x2]) (rest := []) S (c_X8_refusal (h12 := h12)  hf) gX8_why_X8_refusal rfl yk_X8_refusal ⟨⟨Nat.le_of_ble_eq_true rfl, Nat.le_of_ble_eq_true rfl⟩, rfl, rfl⟩ hK hP hD hS hX hA (h12 0 (by decide)) (cF_m E _ _ 0) rfl rfl hl.1 rfl (Nat.le_of_ble_eq_true rfl) ⟨Nat.zero_le _, Nat.zero_le _⟩ dX8_why_21 (fun v_8 I_6 J_7 H locs hf hP hD hS => ?_)
    exact hret hf rfl hP hD hS dX8_why_24
  · have hf := hf.2 h_5
    refine lv_iconst (v := 0) S.1 S.2.1 dX8_why_14 rfl ?_
    refine lv_goto (tgt := 24) S.1 S.2.1 dX8_why_15 (by decide) ?_
    exact hret hf rfl hP hD hS dX8_why_24
abbrev rmX8_play : Room := { frames := 8, cells := 0, slots := 0, locals := 183 }
theorem yk_X8_play : yOk yX8_play RX8 3 := by unfold yOk; decide +kernel
def f_X8_play_J51 (Q : Int32 → MI → MJ → Prop) (x1_24 : Int32) (x2_25 : Int32) (x3_26 : Int32) (s_27 : Int32) (I_28 : MI) (J_29 : MJ) : Prop :=
  f_X8_fails s_27 (3 : Int32) I_28 J_29 (fun (v_32 : Int32) (I_30 : MI) (J_31 : MJ) => ((v_32 = (0 : Int32) → ((x3_26 = (0 : Int32) → (vp_in (5 : Int32) 1802 ∧ f_X8_pointsFor (I_30 12 2 (5 : Int32).toNatClampNeg) x1_24 x2_25 I_30 J_31 (fun (v_41 : Int32) (I_39 : MI) (J_40 : MJ) => Q v_41 I_39 J_40))) ∧ (¬ x3_26 = (0 : Int32) → f_X8_rankOf x1_24 x2_25 I_30 J_31 (fun (v_37 : Int32) (I_35 : MI) (J_36 : MJ) => Q v_37 I_35 J_36)))) ∧ (¬ v_32 = (0 : Int32) → Q (0 : Int32) I_30 J_31)))
def f_X8_play_J29 (Q : Int32 → MI → MJ → Prop) (x1_10 : Int32) (x2_11 : Int32) (x3_12 : Int32) (s_13 : Int32) (I_14 : MI) (J_15 : MJ) : Prop :=
  f_X8_fails s_13 (2 : Int32) I_14 J_15 (fun (v_18 : Int32) (I_16 : MI) (J_17 : MJ) => ((v_18 = (0 : Int32) → f_X8_refusal x1_10 x2_11 I_16 J_17 (fun (v_22 : Int32) (I_20 : MI) (J_21 : MJ) => ((v_22 = (0 : Int32) → f_X8_play_J51 Q x1_10 x2_11 x3_12 (0 : Int32) I_20 J_21) ∧ (¬ v_22 = (0 : Int32) → f_X8_play_J51 Q x1_10 x2_11 x3_12 (1 : Int32) I_20 J_21)))) ∧ (¬ v_18 = (0 : Int32) → Q (0 : Int32) I_16 J_17)))
def f_X8_play (x1 : Int32) (x2 : Int32) (x3 : Int32) (I : MI) (J : MJ) (Q : Int32 → MI → MJ → Prop) : Prop :=
  ∀ I_1 : MI, I_1 = sI I 12 0 0 (0 : Int32) → f_X8_noPlay x1 x2 I_1 J (fun (v_4 : Int32) (I_2 : MI) (J_3 : MJ) => ((v_4 = (0 : Int32) → f_X8_in x3 (0 : Int32) (1 : Int32) I_2 J_3 (fun (v_8 : Int32) (I_6 : MI) (J_7 : MJ) => ((v_8 = (0 : Int32) → f_X8_play_J29 Q x1 x2 x3 (1 : Int32) I_6 J_7) ∧ (¬ v_8 = (0 : Int32) → f_X8_play_J29 Q x1 x2 x3 (0 : Int32) I_6 J_7)))) ∧ (¬ v_4 = (0 : Int32) → Q (0 : Int32) I_2 J_3)))
set_option maxRecDepth 100000 in
set_option maxHeartbeats 4000000 in
theorem c_X8_play {l : Launch} {E : EV} {ps : List (Nat × Nat)} (h12 : ∀ r, r < 17 → (12, r) ∈ ps) {x1 : Int32} {x2 : Int32} {x3 : Int32} {I : MI} {J : MJ} {Q : Int32 → MI → MJ → Prop} (hf : f_X8_play x1 x2 x3 I J Q) : KI l yX8_play wsX8_play rmX8_play E ps [.ref (eA E 12 0), .int x1, .int x2, .int x3] I J Q := by
  refine K_ofI (cc := cX8_play) (maxL := 4) (ty := .int) (by decide +kernel) rfl (Nat.le_of_ble_eq_true rfl) (fun p e s m args below meth c Qm hret S hK hX => ?_)
  have hA : ∀ q, s.heap.size ≤ q → AA E ps s.heap.size q := fun _ h => Or.inr h
  have k1 := S.2.2.2.2 (.fieldLink RX8 49 "RhymeRoofsModel" "thrown" "I") (by decide +kernel)
  have iX8 : ∀ w ∈ wsX80, w ∈ wsX8_play := fun _ h => List.mem_cons_of_mem _ (List.mem_append_right _ h)
  have k2 := S.2.2.2.2 (.fieldLink RX8 17 "RhymeRoofsModel" "data" "[I") (by decide +kernel)
  have jn51 : ∀ (x1_24 : Int32) (x2_25 : Int32) (x3_26 : Int32) (s_27 : Int32) (I_28 : MI) (J_29 : MJ), f_X8_play_J51 Q x1_24 x2_25 x3_26 s_27 I_28 J_29 → Wj p l e (rmX8_play) s m args below meth c Qm E ps 4 I_28 J_29 51 [(0, .ref (eA E 12 0)), (1, .int x1_24), (2, .int x2_25), (3, .int x3_26)] [.int s_27, .ref (eA E 12 0)] := by
    intro x1_24 x2_25 x3_26 s_27 I_28 J_29 hf H locs ls hP hD hS hl
    unfold f_X8_play_J51 at hf
    refine lv_iconst (v := 3) S.1 S.2.1 dX8_play_51 rfl ?_
    refine R_cVi (As := [.int s_27, .int (3 : Int32)]) (rest := []) S (c_X8_fails (h12 := h12)  hf) gX8_play_X8_fails rfl yk_X8_fails ⟨⟨Nat.le_of_ble_eq_true rfl, Nat.le_of_ble_eq_true rfl⟩, rfl, rfl⟩ hK hP hD hS hX hA (h12 0 (by decide)) (cF_m E _ _ 0) rfl rfl hl.1 rfl (Nat.le_of_ble_eq_true rfl) ⟨Nat.zero_le _, Nat.zero_le _⟩ dX8_play_52 (fun v_32 I_30 J_31 H locs hf hP hD hS => ?_)
    refine lv_if_eq (tgt := 60) S.1 S.2.1 dX8_play_55 (by decide) (fun h_33 => ?_) (fun h_33 => ?_)
    · have hf := hf.1 h_33
      refine lv_iload_n S.1 S.2.1 dX8_play_60 rfl (lv_at hl 3 rfl) ?_
      refine lv_if_ne (tgt := 79) S.1 S.2.1 dX8_play_61 (by decide) (fun h_34 => ?_) (fun h_34 => ?_)
      · have hf := hf.2 h_34
        refine lv_aload_n S.1 S.2.1 dX8_play_79 rfl (lv_at hl 0 rfl) ?_
        refine lv_iload_n S.1 S.2.1 dX8_play_80 rfl (lv_at hl 1 rfl) ?_
        refine lv_iload_n S.1 S.2.1 dX8_play_81 rfl (lv_at hl 2 rfl) ?_
        refine R_cVi (As := [.int x1_24, .int x2_25]) (rest := []) S (c_X8_rankOf (h12 := h12)  hf) gX8_play_X8_rankOf rfl yk_X8_rankOf ⟨⟨Nat.le_of_ble_eq_true rfl, Nat.le_of_ble_eq_true rfl⟩, rfl, rfl⟩ hK hP hD hS hX hA (h12 0 (by decide)) (cF_m E _ _ 0) rfl rfl hl.1 rfl (Nat.le_of_ble_eq_true rfl) ⟨Nat.zero_le _, Nat.zero_le _⟩ dX8_play_82 (fun v_37 I_35 J_36 H locs hf hP hD hS => ?_)
        exact hret hf rfl hP hD hS dX8_play_85
      · have hf := hf.1 h_34
        refine lv_aload_n S.1 S.2.1 dX8_play_64 rfl (lv_at hl 0 rfl) ?_
        refine lv_aload_n S.1 S.2.1 dX8_play_65 rfl (lv_at hl 0 rfl) ?_
        refine gfX8_8 S iX8 hK hP (h12 0 (by decide)) k2 dX8_play_66 ?_
        refine lv_iconst (v := 5) S.1 S.2.1 dX8_play_69 rfl ?_
        obtain ⟨h_38, hf⟩ := hf
        refine R_iald S.1 S.2.1 hK hP (h12 2 (by decide)) (IAm2 E) h_38 dX8_play_70 ?_
        refine lv_iload_n S.1 S.2.1 dX8_play_71 rfl (lv_at hl 1 rfl) ?_
        refine lv_iload_n S.1 S.2.1 dX8_play_72 rfl (lv_at hl 2 rfl) ?_
        refine R_cVi (As := [.int (I_30 12 2 (5 : Int32).toNatClampNeg), .int x1_24, .int x2_25]) (rest := []) S (c_X8_pointsFor (h12 := h12)  hf) gX8_play_X8_pointsFor rfl yk_X8_pointsFor ⟨⟨Nat.le_of_ble_eq_true rfl, Nat.le_of_ble_eq_true rfl⟩, rfl, rfl⟩ hK hP hD hS hX hA (h12 0 (by decide)) (cF_m E _ _ 0) rfl rfl hl.1 rfl (Nat.le_of_ble_eq_true rfl) ⟨Nat.zero_le _, Nat.zero_le _⟩ dX8_play_73 (fun v_41 I_39 J_40 H locs hf hP hD hS => ?_)
        refine lv_goto (tgt := 85) S.1 S.2.1 dX8_play_76 (by decide) ?_
        exact hret hf rfl hP hD hS dX8_play_85
    · have hf := hf.2 h_33
      refine lv_iconst (v := 0) S.1 S.2.1 dX8_play_58 rfl ?_
      exact hret hf rfl hP hD hS dX8_play_59
  have jn29 : ∀ (x1_10 : Int32) (x2_11 : Int32) (x3_12 : Int32) (s_13 : Int32) (I_14 : MI) (J_15 : MJ), f_X8_play_J29 Q x1_10 x2_11 x3_12 s_13 I_14 J_15 → Wj p l e (rmX8_play) s m args below meth c Qm E ps 4 I_14 J_15 29 [(0, .ref (eA E 12 0)), (1, .int x1_10), (2, .int x2_11), (3, .int x3_12)] [.int s_13, .ref (eA E 12 0)] := by
    intro x1_10 x2_11 x3_12 s_13 I_14 J_15 hf H locs ls hP hD hS hl
    unfold f_X8_play_J29 at hf
    refine lv_iconst (v := 2) S.1 S.2.1 dX8_play_29 rfl ?_
    refine R_cVi (As := [.int s_13, .int (2 : Int32)]) (rest := []) S (c_X8_fails (h12 := h12)  hf) gX8_play_X8_fails rfl yk_X8_fails ⟨⟨Nat.le_of_ble_eq_true rfl, Nat.le_of_ble_eq_true rfl⟩, rfl, rfl⟩ hK hP hD hS hX hA (h12 0 (by decide)) (cF_m E _ _ 0) rfl rfl hl.1 rfl (Nat.le_of_ble_eq_true rfl) ⟨Nat.zero_le _, Nat.zero_le _⟩ dX8_play_30 (fun v_18 I_16 J_17 H locs hf hP hD hS => ?_)
    refine lv_if_ne (tgt := 58) S.1 S.2.1 dX8_play_33 (by decide) (fun h_19 => ?_) (fun h_19 => ?_)
    · have hf := hf.2 h_19
      refine lv_iconst (v := 0) S.1 S.2.1 dX8_play_58 rfl ?_
      exact hret hf rfl hP hD hS dX8_play_59
    · have hf := hf.1 h_19
      refine lv_aload_n S.1 S.2.1 dX8_play_36 rfl (lv_at hl 0 rfl) ?_
      refine lv_aload_n S.1 S.2.1 dX8_play_37 rfl (lv_at hl 0 rfl) ?_
      refine lv_iload_n S.1 S.2.1 dX8_play_38 rfl (lv_at hl 1 rfl) ?_
      refine lv_iload_n S.1 S.2.1 dX8_play_39 rfl (lv_at hl 2 rfl) ?_
      refine R_cVi (As := [.int x1_10, .int x2_11]) (rest := [.ref (eA E 12 0)]) S (c_X8_refusal (h12 := h12)  hf) gX8_play_X8_refusal rfl yk_X8_refusal ⟨⟨Nat.le_of_ble_eq_true rfl, Nat.le_of_ble_eq_true rfl⟩, rfl, rfl⟩ hK hP hD hS hX hA (h12 0 (by decide)) (cF_m E _ _ 0) rfl rfl hl.1 rfl (Nat.le_of_ble_eq_true rfl) ⟨Nat.zero_le _, Nat.zero_le _⟩ dX8_play_40 (fun v_22 I_20 J_21 H locs hf hP hD hS => ?_)
      refine lv_if_eq (tgt := 50) S.1 S.2.1 dX8_play_43 (by decide) (fun h_23 => ?_) (fun h_23 => ?_)
      · have hf := hf.1 h_23
        refine lv_iconst (v := 0) S.1 S.2.1 dX8_play_50 rfl ?_
        exact jn51 _ _ _ _ _ _ hf _ _ _ hP hD hS (lv_sub hl [0, 1, 2, 3] rfl)
      · have hf := hf.2 h_23
        refine lv_iconst (v := 1) S.1 S.2.1 dX8_play_46 rfl ?_
        refine lv_goto (tgt := 51) S.1 S.2.1 dX8_play_47 (by decide) ?_
        exact jn51 _ _ _ _ _ _ hf _ _ _ hP hD hS (lv_sub hl [0, 1, 2, 3] rfl)
  intro H locs ls hP hD hS hl
  unfold f_X8_play at hf
  refine lv_aload_n S.1 S.2.1 dX8_play_0 rfl (lv_at hl 0 rfl) ?_
  refine lv_iconst (v := 0) S.1 S.2.1 dX8_play_1 rfl ?_
  refine nm_o hf (fun I_1 eI_1 hf => ?_)
  refine pfX8_0 S iX8 hK hP hD hS (h12 0 (by decide)) k1 dX8_play_2 eI_1 (fun H locs hP hD hS => ?_)
  refine lv_aload_n S.1 S.2.1 dX8_play_5 rfl (lv_at hl 0 rfl) ?_
  refine lv_iload_n S.1 S.2.1 dX8_play_6 rfl (lv_at hl 1 rfl) ?_
  refine lv_iload_n S.1 S.2.1 dX8_play_7 rfl (lv_at hl 2 rfl) ?_
  refine R_cVi (As := [.int x1, .int x2]) (rest := []) S (c_X8_noPlay (h12 := h12)  hf) gX8_play_X8_noPlay rfl yk_X8_noPlay ⟨⟨Nat.le_of_ble_eq_true rfl, Nat.le_of_ble_eq_true rfl⟩, rfl, rfl⟩ hK hP hD hS hX hA (h12 0 (by decide)) (cF_m E _ _ 0) rfl rfl hl.1 rfl (Nat.le_of_ble_eq_true rfl) ⟨Nat.zero_le _, Nat.zero_le _⟩ dX8_play_8 (fun v_4 I_2 J_3 H locs hf hP hD hS => ?_)
  refine lv_if_ne (tgt := 58) S.1 S.2.1 dX8_play_11 (by decide) (fun h_5 => ?_) (fun h_5 => ?_)
  · have hf := hf.2 h_5
    refine lv_iconst (v := 0) S.1 S.2.1 dX8_play_58 rfl ?_
    exact hret hf rfl hP hD hS dX8_play_59
  · have hf := hf.1 h_5
    refine lv_aload_n S.1 S.2.1 dX8_play_14 rfl (lv_at hl 0 rfl) ?_
    refine lv_iload_n S.1 S.2.1 dX8_play_15 rfl (lv_at hl 3 rfl) ?_
    refine lv_iconst (v := 0) S.1 S.2.1 dX8_play_16 rfl ?_
    refine lv_iconst (v := 1) S.1 S.2.1 dX8_play_17 rfl ?_
    refine R_cSi (As := [.int x3, .int (0 : Int32), .int (1 : Int32)]) (rest := [.ref (eA E 12 0)]) S (c_X8_in   hf) gX8_play_X8_in rfl yk_X8_in ⟨⟨Nat.le_of_ble_eq_true rfl, Nat.le_of_ble_eq_true rfl⟩, rfl, rfl⟩ hK hP hD hS hX hA rfl hl.1 rfl (Nat.le_of_ble_eq_true rfl) ⟨Nat.zero_le _, Nat.zero_le _⟩ dX8_play_18 (fun v_8 I_6 J_7 H locs hf hP hD hS => ?_)
    refine lv_if_ne (tgt := 28) S.1 S.2.1 dX8_play_21 (by decide) (fun h_9 => ?_) (fun h_9 => ?_)
    · have hf := hf.2 h_9
      refine lv_iconst (v := 0) S.1 S.2.1 dX8_play_28 rfl ?_
      exact jn29 _ _ _ _ _ _ hf _ _ _ hP hD hS (lv_sub hl [0, 1, 2, 3] rfl)
    · have hf := hf.1 h_9
      refine lv_iconst (v := 1) S.1 S.2.1 dX8_play_24 rfl ?_
      refine lv_goto (tgt := 29) S.1 S.2.1 dX8_play_25 (by decide) ?_
      exact jn29 _ _ _ _ _ _ hf _ _ _ hP hD hS (lv_sub hl [0, 1, 2, 3] rfl)
abbrev rmX8_best : Room := { frames := 9, cells := 0, slots := 0, locals := 208 }
theorem yk_X8_best : yOk yX8_best RX8 0 := by unfold yOk; decide +kernel
def f_X8_best (I : MI) (J : MJ) (Q : Int32 → MI → MJ → Prop) : Prop :=
  ∀ I_1 : MI, I_1 = sI I 12 0 0 (0 : Int32) → f_X8_bestPlay I_1 J (fun (v_4 : Int32) (I_2 : MI) (J_3 : MJ) => Q v_4 I_2 J_3)
set_option maxRecDepth 100000 in
set_option maxHeartbeats 4000000 in
theorem c_X8_best {l : Launch} {E : EV} {ps : List (Nat × Nat)} (h12 : ∀ r, r < 17 → (12, r) ∈ ps) {I : MI} {J : MJ} {Q : Int32 → MI → MJ → Prop} (hf : f_X8_best I J Q) : KI l yX8_best wsX8_best rmX8_best E ps [.ref (eA E 12 0)] I J Q := by
  refine K_ofI (cc := cX8_best) (maxL := 1) (ty := .int) (by decide +kernel) rfl (Nat.le_of_ble_eq_true rfl) (fun p e s m args below meth c Qm hret S hK hX => ?_)
  have hA : ∀ q, s.heap.size ≤ q → AA E ps s.heap.size q := fun _ h => Or.inr h
  have k1 := S.2.2.2.2 (.fieldLink RX8 49 "RhymeRoofsModel" "thrown" "I") (by decide +kernel)
  have iX8 : ∀ w ∈ wsX80, w ∈ wsX8_best := fun _ h => List.mem_cons_of_mem _ (List.mem_append_right _ h)
  intro H locs ls hP hD hS hl
  unfold f_X8_best at hf
  refine lv_aload_n S.1 S.2.1 dX8_best_0 rfl (lv_at hl 0 rfl) ?_
  refine lv_iconst (v := 0) S.1 S.2.1 dX8_best_1 rfl ?_
  refine nm_o hf (fun I_1 eI_1 hf => ?_)
  refine pfX8_0 S iX8 hK hP hD hS (h12 0 (by decide)) k1 dX8_best_2 eI_1 (fun H locs hP hD hS => ?_)
  refine lv_aload_n S.1 S.2.1 dX8_best_5 rfl (lv_at hl 0 rfl) ?_
  refine R_cVi (As := []) (rest := []) S (c_X8_bestPlay (h12 := h12)  hf) gX8_best_X8_bestPlay rfl yk_X8_bestPlay ⟨⟨Nat.le_of_ble_eq_true rfl, Nat.le_of_ble_eq_true rfl⟩, rfl, rfl⟩ hK hP hD hS hX hA (h12 0 (by decide)) (cF_m E _ _ 0) rfl rfl hl.1 rfl (Nat.le_of_ble_eq_true rfl) ⟨Nat.zero_le _, Nat.zero_le _⟩ dX8_best_6 (fun v_4 I_2 J_3 H locs hf hP hD hS => ?_)
  exact hret hf rfl hP hD hS dX8_best_9
