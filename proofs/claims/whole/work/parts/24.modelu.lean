abbrev rmX8_toldPlayer : Room := { frames := 4, cells := 0, slots := 0, locals := 87 }
theorem yk_X8_toldPlayer : yOk yX8_toldPlayer RX8 2 := by unfold yOk; decide +kernel
def f_X8_toldPlayer (x1 : Int32) (x2 : Int32) (I : MI) (J : MJ) (Q : Int32 → MI → MJ → Prop) : Prop :=
  ((x2 = (0 : Int32) → f_X8_ofPlayer x1 (1 : Int32) I J (fun (v_4 : Int32) (I_2 : MI) (J_3 : MJ) => Q v_4 I_2 J_3)) ∧ (¬ x2 = (0 : Int32) → ((x2 = (1 : Int32) → f_X8_ofPlayer x1 (1 : Int32) I J (fun (v_7 : Int32) (I_5 : MI) (J_6 : MJ) => f_X8_lettersOf x1 (((1 : Int32) <<< (v_7 &&& 31)) - (1 : Int32)) I_5 J_6 (fun (v_10 : Int32) (I_8 : MI) (J_9 : MJ) => Q v_10 I_8 J_9))) ∧ (¬ x2 = (1 : Int32) → ((x2 = (2 : Int32) → f_X8_ofPlayer x1 (0 : Int32) I J (fun (v_13 : Int32) (I_11 : MI) (J_12 : MJ) => Q v_13 I_11 J_12)) ∧ (¬ x2 = (2 : Int32) → f_X8_owned x1 I J (fun (v_16 : Int32) (I_14 : MI) (J_15 : MJ) => Q v_16 I_14 J_15)))))))
set_option maxRecDepth 100000 in
set_option maxHeartbeats 4000000 in
theorem c_X8_toldPlayer {l : Launch} {E : EV} {ps : List (Nat × Nat)} (h12 : ∀ r, r < 17 → (12, r) ∈ ps) {x1 : Int32} {x2 : Int32} {I : MI} {J : MJ} {Q : Int32 → MI → MJ → Prop} (hf : f_X8_toldPlayer x1 x2 I J Q) : KI l yX8_toldPlayer wsX8_toldPlayer rmX8_toldPlayer E ps [.ref (eA E 12 0), .int x1, .int x2] I J Q := by
  refine K_ofI (cc := cX8_toldPlayer) (maxL := 3) (ty := .int) (by decide +kernel) rfl (Nat.le_of_ble_eq_true rfl) (fun p e s m args below meth c Qm hret S hK hX => ?_)
  have hA : ∀ q, s.heap.size ≤ q → AA E ps s.heap.size q := fun _ h => Or.inr h
  intro H locs ls hP hD hS hl
  unfold f_X8_toldPlayer at hf
  refine lv_iload_n S.1 S.2.1 dX8_toldPlayer_0 rfl (lv_at hl 2 rfl) ?_
  refine Classical.byCases (p := x2 = (0 : Int32)) (fun h_1 => ?_) (fun h_1_0 => ?_)
  · have hf := hf.1 h_1
    refine R_swIn (tgt := 28) (off := 27) S.1 S.2.1 dX8_toldPlayer_1 h_1 (by decide) (by decide) ?_
    refine lv_aload_n S.1 S.2.1 dX8_toldPlayer_28 rfl (lv_at hl 0 rfl) ?_
    refine lv_iload_n S.1 S.2.1 dX8_toldPlayer_29 rfl (lv_at hl 1 rfl) ?_
    refine lv_iconst (v := 1) S.1 S.2.1 dX8_toldPlayer_30 rfl ?_
    refine R_cVi (As := [.int x1, .int (1 : Int32)]) (rest := []) S (c_X8_ofPlayer (h12 := h12)  hf) gX8_toldPlayer_X8_ofPlayer rfl yk_X8_ofPlayer ⟨⟨Nat.le_of_ble_eq_true rfl, Nat.le_of_ble_eq_true rfl⟩, rfl, rfl⟩ hK hP hD hS hX hA (h12 0 (by decide)) (cF_m E _ _ 0) rfl rfl hl.1 rfl (Nat.le_of_ble_eq_true rfl) ⟨Nat.zero_le _, Nat.zero_le _⟩ dX8_toldPlayer_31 (fun v_4 I_2 J_3 H locs hf hP hD hS => ?_)
    exact hret hf rfl hP hD hS dX8_toldPlayer_34
  have hf := hf.2 h_1_0
  refine Classical.byCases (p := x2 = (1 : Int32)) (fun h_1 => ?_) (fun h_1_1 => ?_)
  · have hf := hf.1 h_1
    refine R_swIn (tgt := 35) (off := 34) S.1 S.2.1 dX8_toldPlayer_1 h_1 (by decide) (by decide) ?_
    refine lv_aload_n S.1 S.2.1 dX8_toldPlayer_35 rfl (lv_at hl 0 rfl) ?_
    refine lv_iload_n S.1 S.2.1 dX8_toldPlayer_36 rfl (lv_at hl 1 rfl) ?_
    refine lv_iconst (v := 1) S.1 S.2.1 dX8_toldPlayer_37 rfl ?_
    refine lv_aload_n S.1 S.2.1 dX8_toldPlayer_38 rfl (lv_at hl 0 rfl) ?_
    refine lv_iload_n S.1 S.2.1 dX8_toldPlayer_39 rfl (lv_at hl 1 rfl) ?_
    refine lv_iconst (v := 1) S.1 S.2.1 dX8_toldPlayer_40 rfl ?_
    refine R_cVi (As := [.int x1, .int (1 : Int32)]) (rest := [.int (1 : Int32), .int x1, .ref (eA E 12 0)]) S (c_X8_ofPlayer (h12 := h12)  hf) gX8_toldPlayer_X8_ofPlayer rfl yk_X8_ofPlayer ⟨⟨Nat.le_of_ble_eq_true rfl, Nat.le_of_ble_eq_true rfl⟩, rfl, rfl⟩ hK hP hD hS hX hA (h12 0 (by decide)) (cF_m E _ _ 0) rfl rfl hl.1 rfl (Nat.le_of_ble_eq_true rfl) ⟨Nat.zero_le _, Nat.zero_le _⟩ dX8_toldPlayer_41 (fun v_7 I_5 J_6 H locs hf hP hD hS => ?_)
    refine lv_ishl S.1 S.2.1 dX8_toldPlayer_44 ?_
    refine lv_iconst (v := 1) S.1 S.2.1 dX8_toldPlayer_45 rfl ?_
    refine lv_isub S.1 S.2.1 dX8_toldPlayer_46 ?_
    refine R_cVi (As := [.int x1, .int (((1 : Int32) <<< (v_7 &&& 31)) - (1 : Int32))]) (rest := []) S (c_X8_lettersOf (h12 := h12)  hf) gX8_toldPlayer_X8_lettersOf rfl yk_X8_lettersOf ⟨⟨Nat.le_of_ble_eq_true rfl, Nat.le_of_ble_eq_true rfl⟩, rfl, rfl⟩ hK hP hD hS hX hA (h12 0 (by decide)) (cF_m E _ _ 0) rfl rfl hl.1 rfl (Nat.le_of_ble_eq_true rfl) ⟨Nat.zero_le _, Nat.zero_le _⟩ dX8_toldPlayer_47 (fun v_10 I_8 J_9 H locs hf hP hD hS => ?_)
    exact hret hf rfl hP hD hS dX8_toldPlayer_50
  have hf := hf.2 h_1_1
  refine Classical.byCases (p := x2 = (2 : Int32)) (fun h_1 => ?_) (fun h_1_2 => ?_)
  · have hf := hf.1 h_1
    refine R_swIn (tgt := 51) (off := 50) S.1 S.2.1 dX8_toldPlayer_1 h_1 (by decide) (by decide) ?_
    refine lv_aload_n S.1 S.2.1 dX8_toldPlayer_51 rfl (lv_at hl 0 rfl) ?_
    refine lv_iload_n S.1 S.2.1 dX8_toldPlayer_52 rfl (lv_at hl 1 rfl) ?_
    refine lv_iconst (v := 0) S.1 S.2.1 dX8_toldPlayer_53 rfl ?_
    refine R_cVi (As := [.int x1, .int (0 : Int32)]) (rest := []) S (c_X8_ofPlayer (h12 := h12)  hf) gX8_toldPlayer_X8_ofPlayer rfl yk_X8_ofPlayer ⟨⟨Nat.le_of_ble_eq_true rfl, Nat.le_of_ble_eq_true rfl⟩, rfl, rfl⟩ hK hP hD hS hX hA (h12 0 (by decide)) (cF_m E _ _ 0) rfl rfl hl.1 rfl (Nat.le_of_ble_eq_true rfl) ⟨Nat.zero_le _, Nat.zero_le _⟩ dX8_toldPlayer_54 (fun v_13 I_11 J_12 H locs hf hP hD hS => ?_)
    exact hret hf rfl hP hD hS dX8_toldPlayer_57
  have hf := hf.2 h_1_2
  refine lv_tableOut (tgt := 58) S.1 S.2.1 dX8_toldPlayer_1 (by have q0 := ne_I (z := 0) h_1_0 (by decide); have q1 := ne_I (z := 1) h_1_1 (by decide); have q2 := ne_I (z := 2) h_1_2 (by decide); omega) (by decide) ?_
  refine lv_aload_n S.1 S.2.1 dX8_toldPlayer_58 rfl (lv_at hl 0 rfl) ?_
  refine lv_iload_n S.1 S.2.1 dX8_toldPlayer_59 rfl (lv_at hl 1 rfl) ?_
  refine R_cVi (As := [.int x1]) (rest := []) S (c_X8_owned (h12 := h12)  hf) gX8_toldPlayer_X8_owned rfl yk_X8_owned ⟨⟨Nat.le_of_ble_eq_true rfl, Nat.le_of_ble_eq_true rfl⟩, rfl, rfl⟩ hK hP hD hS hX hA (h12 0 (by decide)) (cF_m E _ _ 0) rfl rfl hl.1 rfl (Nat.le_of_ble_eq_true rfl) ⟨Nat.zero_le _, Nat.zero_le _⟩ dX8_toldPlayer_60 (fun v_16 I_14 J_15 H locs hf hP hD hS => ?_)
  exact hret hf rfl hP hD hS dX8_toldPlayer_63
abbrev rmX8_player : Room := { frames := 5, cells := 0, slots := 0, locals := 109 }
theorem yk_X8_player : yOk yX8_player RX8 2 := by unfold yOk; decide +kernel
def f_X8_player_J28 (Q : Int32 → MI → MJ → Prop) (x1_10 : Int32) (x2_11 : Int32) (s_12 : Int32) (I_13 : MI) (J_14 : MJ) : Prop :=
  f_X8_fails s_12 (2 : Int32) I_13 J_14 (fun (v_17 : Int32) (I_15 : MI) (J_16 : MJ) => ((v_17 = (0 : Int32) → f_X8_toldPlayer x1_10 x2_11 I_15 J_16 (fun (v_21 : Int32) (I_19 : MI) (J_20 : MJ) => Q v_21 I_19 J_20)) ∧ (¬ v_17 = (0 : Int32) → Q (0 : Int32) I_15 J_16)))
def f_X8_player (x1 : Int32) (x2 : Int32) (I : MI) (J : MJ) (Q : Int32 → MI → MJ → Prop) : Prop :=
  ∀ I_1 : MI, I_1 = sI I 12 0 0 (0 : Int32) → f_X8_noPlayer x1 I_1 J (fun (v_4 : Int32) (I_2 : MI) (J_3 : MJ) => ((v_4 = (0 : Int32) → f_X8_in x2 (0 : Int32) (3 : Int32) I_2 J_3 (fun (v_8 : Int32) (I_6 : MI) (J_7 : MJ) => ((v_8 = (0 : Int32) → f_X8_player_J28 Q x1 x2 (1 : Int32) I_6 J_7) ∧ (¬ v_8 = (0 : Int32) → f_X8_player_J28 Q x1 x2 (0 : Int32) I_6 J_7)))) ∧ (¬ v_4 = (0 : Int32) → Q (0 : Int32) I_2 J_3)))
set_option maxRecDepth 100000 in
set_option maxHeartbeats 4000000 in
theorem c_X8_player {l : Launch} {E : EV} {ps : List (Nat × Nat)} (h12 : ∀ r, r < 17 → (12, r) ∈ ps) {x1 : Int32} {x2 : Int32} {I : MI} {J : MJ} {Q : Int32 → MI → MJ → Prop} (hf : f_X8_player x1 x2 I J Q) : KI l yX8_player wsX8_player rmX8_player E ps [.ref (eA E 12 0), .int x1, .int x2] I J Q := by
  refine K_ofI (cc := cX8_player) (maxL := 3) (ty := .int) (by decide +kernel) rfl (Nat.le_of_ble_eq_true rfl) (fun p e s m args below meth c Qm hret S hK hX => ?_)
  have hA : ∀ q, s.heap.size ≤ q → AA E ps s.heap.size q := fun _ h => Or.inr h
  have k1 := S.2.2.2.2 (.fieldLink RX8 49 "RhymeRoofsModel" "thrown" "I") (by decide +kernel)
  have iX8 : ∀ w ∈ wsX80, w ∈ wsX8_player := fun _ h => List.mem_cons_of_mem _ (List.mem_append_right _ h)
  have jn28 : ∀ (x1_10 : Int32) (x2_11 : Int32) (s_12 : Int32) (I_13 : MI) (J_14 : MJ), f_X8_player_J28 Q x1_10 x2_11 s_12 I_13 J_14 → Wj p l e (rmX8_player) s m args below meth c Qm E ps 3 I_13 J_14 28 [(0, .ref (eA E 12 0)), (1, .int x1_10), (2, .int x2_11)] [.int s_12, .ref (eA E 12 0)] := by
    intro x1_10 x2_11 s_12 I_13 J_14 hf H locs ls hP hD hS hl
    unfold f_X8_player_J28 at hf
    refine lv_iconst (v := 2) S.1 S.2.1 dX8_player_28 rfl ?_
    refine R_cVi (As := [.int s_12, .int (2 : Int32)]) (rest := []) S (c_X8_fails (h12 := h12)  hf) gX8_player_X8_fails rfl yk_X8_fails ⟨⟨Nat.le_of_ble_eq_true rfl, Nat.le_of_ble_eq_true rfl⟩, rfl, rfl⟩ hK hP hD hS hX hA (h12 0 (by decide)) (cF_m E _ _ 0) rfl rfl hl.1 rfl (Nat.le_of_ble_eq_true rfl) ⟨Nat.zero_le _, Nat.zero_le _⟩ dX8_player_29 (fun v_17 I_15 J_16 H locs hf hP hD hS => ?_)
    refine lv_if_eq (tgt := 39) S.1 S.2.1 dX8_player_32 (by decide) (fun h_18 => ?_) (fun h_18 => ?_)
    · have hf := hf.1 h_18
      refine lv_aload_n S.1 S.2.1 dX8_player_39 rfl (lv_at hl 0 rfl) ?_
      refine lv_iload_n S.1 S.2.1 dX8_player_40 rfl (lv_at hl 1 rfl) ?_
      refine lv_iload_n S.1 S.2.1 dX8_player_41 rfl (lv_at hl 2 rfl) ?_
      refine R_cVi (As := [.int x1_10, .int x2_11]) (rest := []) S (c_X8_toldPlayer (h12 := h12)  hf) gX8_player_X8_toldPlayer rfl yk_X8_toldPlayer ⟨⟨Nat.le_of_ble_eq_true rfl, Nat.le_of_ble_eq_true rfl⟩, rfl, rfl⟩ hK hP hD hS hX hA (h12 0 (by decide)) (cF_m E _ _ 0) rfl rfl hl.1 rfl (Nat.le_of_ble_eq_true rfl) ⟨Nat.zero_le _, Nat.zero_le _⟩ dX8_player_42 (fun v_21 I_19 J_20 H locs hf hP hD hS => ?_)
      exact hret hf rfl hP hD hS dX8_player_45
    · have hf := hf.2 h_18
      refine lv_iconst (v := 0) S.1 S.2.1 dX8_player_35 rfl ?_
      refine lv_goto (tgt := 45) S.1 S.2.1 dX8_player_36 (by decide) ?_
      exact hret hf rfl hP hD hS dX8_player_45
  intro H locs ls hP hD hS hl
  unfold f_X8_player at hf
  refine lv_aload_n S.1 S.2.1 dX8_player_0 rfl (lv_at hl 0 rfl) ?_
  refine lv_iconst (v := 0) S.1 S.2.1 dX8_player_1 rfl ?_
  refine nm_o hf (fun I_1 eI_1 hf => ?_)
  refine pfX8_0 S iX8 hK hP hD hS (h12 0 (by decide)) k1 dX8_player_2 eI_1 (fun H locs hP hD hS => ?_)
  refine lv_aload_n S.1 S.2.1 dX8_player_5 rfl (lv_at hl 0 rfl) ?_
  refine lv_iload_n S.1 S.2.1 dX8_player_6 rfl (lv_at hl 1 rfl) ?_
  refine R_cVi (As := [.int x1]) (rest := []) S (c_X8_noPlayer (h12 := h12)  hf) gX8_player_X8_noPlayer rfl yk_X8_noPlayer ⟨⟨Nat.le_of_ble_eq_true rfl, Nat.le_of_ble_eq_true rfl⟩, rfl, rfl⟩ hK hP hD hS hX hA (h12 0 (by decide)) (cF_m E _ _ 0) rfl rfl hl.1 rfl (Nat.le_of_ble_eq_true rfl) ⟨Nat.zero_le _, Nat.zero_le _⟩ dX8_player_7 (fun v_4 I_2 J_3 H locs hf hP hD hS => ?_)
  refine lv_if_ne (tgt := 35) S.1 S.2.1 dX8_player_10 (by decide) (fun h_5 => ?_) (fun h_5 => ?_)
  · have hf := hf.2 h_5
    refine lv_iconst (v := 0) S.1 S.2.1 dX8_player_35 rfl ?_
    refine lv_goto (tgt := 45) S.1 S.2.1 dX8_player_36 (by decide) ?_
    exact hret hf rfl hP hD hS dX8_player_45
  · have hf := hf.1 h_5
    refine lv_aload_n S.1 S.2.1 dX8_player_13 rfl (lv_at hl 0 rfl) ?_
    refine lv_iload_n S.1 S.2.1 dX8_player_14 rfl (lv_at hl 2 rfl) ?_
    refine lv_iconst (v := 0) S.1 S.2.1 dX8_player_15 rfl ?_
    refine lv_iconst (v := 3) S.1 S.2.1 dX8_player_16 rfl ?_
    refine R_cSi (As := [.int x2, .int (0 : Int32), .int (3 : Int32)]) (rest := [.ref (eA E 12 0)]) S (c_X8_in   hf) gX8_player_X8_in rfl yk_X8_in ⟨⟨Nat.le_of_ble_eq_true rfl, Nat.le_of_ble_eq_true rfl⟩, rfl, rfl⟩ hK hP hD hS hX hA rfl hl.1 rfl (Nat.le_of_ble_eq_true rfl) ⟨Nat.zero_le _, Nat.zero_le _⟩ dX8_player_17 (fun v_8 I_6 J_7 H locs hf hP hD hS => ?_)
    refine lv_if_ne (tgt := 27) S.1 S.2.1 dX8_player_20 (by decide) (fun h_9 => ?_) (fun h_9 => ?_)
    · have hf := hf.2 h_9
      refine lv_iconst (v := 0) S.1 S.2.1 dX8_player_27 rfl ?_
      exact jn28 _ _ _ _ _ hf _ _ _ hP hD hS (lv_sub hl [0, 1, 2] rfl)
    · have hf := hf.1 h_9
      refine lv_iconst (v := 1) S.1 S.2.1 dX8_player_23 rfl ?_
      refine lv_goto (tgt := 28) S.1 S.2.1 dX8_player_24 (by decide) ?_
      exact jn28 _ _ _ _ _ hf _ _ _ hP hD hS (lv_sub hl [0, 1, 2] rfl)
abbrev rmX8_letter : Room := { frames := 3, cells := 0, slots := 0, locals := 65 }
theorem yk_X8_letter : yOk yX8_letter RX8 3 := by unfold yOk; decide +kernel
def f_X8_letter_J36 (Q : Int32 → MI → MJ → Prop) (x1_13 : Int32) (x2_14 : Int32) (x3_15 : Int32) (s_16 : Int32) (I_17 : MI) (J_18 : MJ) : Prop :=
  f_X8_fails s_16 (2 : Int32) I_17 J_18 (fun (v_21 : Int32) (I_19 : MI) (J_20 : MJ) => ((v_21 = (0 : Int32) → f_X8_wordAt x1_13 x2_14 I_19 J_20 (fun (v_25 : Int32) (I_23 : MI) (J_24 : MJ) => (vp_in ((v_25 + (1 : Int32)) + x3_15) 1802 ∧ Q (I_23 12 2 ((v_25 + (1 : Int32)) + x3_15).toNatClampNeg) I_23 J_24))) ∧ (¬ v_21 = (0 : Int32) → Q (0 : Int32) I_19 J_20)))
def f_X8_letter (x1 : Int32) (x2 : Int32) (x3 : Int32) (I : MI) (J : MJ) (Q : Int32 → MI → MJ → Prop) : Prop :=
  ∀ I_1 : MI, I_1 = sI I 12 0 0 (0 : Int32) → f_X8_noWord x1 x2 I_1 J (fun (v_4 : Int32) (I_2 : MI) (J_3 : MJ) => ((v_4 = (0 : Int32) → f_X8_lengthOf x1 x2 I_2 J_3 (fun (v_8 : Int32) (I_6 : MI) (J_7 : MJ) => f_X8_in x3 (0 : Int32) (v_8 - (1 : Int32)) I_6 J_7 (fun (v_11 : Int32) (I_9 : MI) (J_10 : MJ) => ((v_11 = (0 : Int32) → f_X8_letter_J36 Q x1 x2 x3 (1 : Int32) I_9 J_10) ∧ (¬ v_11 = (0 : Int32) → f_X8_letter_J36 Q x1 x2 x3 (0 : Int32) I_9 J_10))))) ∧ (¬ v_4 = (0 : Int32) → Q (0 : Int32) I_2 J_3)))
set_option maxRecDepth 100000 in
set_option maxHeartbeats 4000000 in
theorem c_X8_letter {l : Launch} {E : EV} {ps : List (Nat × Nat)} (h12 : ∀ r, r < 17 → (12, r) ∈ ps) {x1 : Int32} {x2 : Int32} {x3 : Int32} {I : MI} {J : MJ} {Q : Int32 → MI → MJ → Prop} (hf : f_X8_letter x1 x2 x3 I J Q) : KI l yX8_letter wsX8_letter rmX8_letter E ps [.ref (eA E 12 0), .int x1, .int x2, .int x3] I J Q := by
  refine K_ofI (cc := cX8_letter) (maxL := 4) (ty := .int) (by decide +kernel) rfl (Nat.le_of_ble_eq_true rfl) (fun p e s m args below meth c Qm hret S hK hX => ?_)
  have hA : ∀ q, s.heap.size ≤ q → AA E ps s.heap.size q := fun _ h => Or.inr h
  have k1 := S.2.2.2.2 (.fieldLink RX8 49 "RhymeRoofsModel" "thrown" "I") (by decide +kernel)
  have iX8 : ∀ w ∈ wsX80, w ∈ wsX8_letter := fun _ h => List.mem_cons_of_mem _ (List.mem_append_right _ h)
  have k2 := S.2.2.2.2 (.fieldLink RX8 17 "RhymeRoofsModel" "data" "[I") (by decide +kernel)
  have jn36 : ∀ (x1_13 : Int32) (x2_14 : Int32) (x3_15 : Int32) (s_16 : Int32) (I_17 : MI) (J_18 : MJ), f_X8_letter_J36 Q x1_13 x2_14 x3_15 s_16 I_17 J_18 → Wj p l e (rmX8_letter) s m args below meth c Qm E ps 4 I_17 J_18 36 [(0, .ref (eA E 12 0)), (1, .int x1_13), (2, .int x2_14), (3, .int x3_15)] [.int s_16, .ref (eA E 12 0)] := by
    intro x1_13 x2_14 x3_15 s_16 I_17 J_18 hf H locs ls hP hD hS hl
    unfold f_X8_letter_J36 at hf
    refine lv_iconst (v := 2) S.1 S.2.1 dX8_letter_36 rfl ?_
    refine R_cVi (As := [.int s_16, .int (2 : Int32)]) (rest := []) S (c_X8_fails (h12 := h12)  hf) gX8_letter_X8_fails rfl yk_X8_fails ⟨⟨Nat.le_of_ble_eq_true rfl, Nat.le_of_ble_eq_true rfl⟩, rfl, rfl⟩ hK hP hD hS hX hA (h12 0 (by decide)) (cF_m E _ _ 0) rfl rfl hl.1 rfl (Nat.le_of_ble_eq_true rfl) ⟨Nat.zero_le _, Nat.zero_le _⟩ dX8_letter_37 (fun v_21 I_19 J_20 H locs hf hP hD hS => ?_)
    refine lv_if_eq (tgt := 47) S.1 S.2.1 dX8_letter_40 (by decide) (fun h_22 => ?_) (fun h_22 => ?_)
    · have hf := hf.1 h_22
      refine lv_aload_n S.1 S.2.1 dX8_letter_47 rfl (lv_at hl 0 rfl) ?_
      refine gfX8_8 S iX8 hK hP (h12 0 (by decide)) k2 dX8_letter_48 ?_
      refine lv_iload_n S.1 S.2.1 dX8_letter_51 rfl (lv_at hl 1 rfl) ?_
      refine lv_iload_n S.1 S.2.1 dX8_letter_52 rfl (lv_at hl 2 rfl) ?_
      refine R_cSi (As := [.int x1_13, .int x2_14]) (rest := [.ref (eA E 12 2)]) S (c_X8_wordAt   hf) gX8_letter_X8_wordAt rfl yk_X8_wordAt ⟨⟨Nat.le_of_ble_eq_true rfl, Nat.le_of_ble_eq_true rfl⟩, rfl, rfl⟩ hK hP hD hS hX hA rfl hl.1 rfl (Nat.le_of_ble_eq_true rfl) ⟨Nat.zero_le _, Nat.zero_le _⟩ dX8_letter_53 (fun v_25 I_23 J_24 H locs hf hP hD hS => ?_)
      refine lv_iconst (v := 1) S.1 S.2.1 dX8_letter_56 rfl ?_
      refine lv_iadd S.1 S.2.1 dX8_letter_57 ?_
      refine lv_iload_n S.1 S.2.1 dX8_letter_58 rfl (lv_at hl 3 rfl) ?_
      refine lv_iadd S.1 S.2.1 dX8_letter_59 ?_
      obtain ⟨h_26, hf⟩ := hf
      refine R_iald S.1 S.2.1 hK hP (h12 2 (by decide)) (IAm2 E) h_26 dX8_letter_60 ?_
      exact hret hf rfl hP hD hS dX8_letter_61
    · have hf := hf.2 h_22
      refine lv_iconst (v := 0) S.1 S.2.1 dX8_letter_43 rfl ?_
      refine lv_goto (tgt := 61) S.1 S.2.1 dX8_letter_44 (by decide) ?_
      exact hret hf rfl hP hD hS dX8_letter_61
  intro H locs ls hP hD hS hl
  unfold f_X8_letter at hf
  refine lv_aload_n S.1 S.2.1 dX8_letter_0 rfl (lv_at hl 0 rfl) ?_
  refine lv_iconst (v := 0) S.1 S.2.1 dX8_letter_1 rfl ?_
  refine nm_o hf (fun I_1 eI_1 hf => ?_)
  refine pfX8_0 S iX8 hK hP hD hS (h12 0 (by decide)) k1 dX8_letter_2 eI_1 (fun H locs hP hD hS => ?_)
  refine lv_aload_n S.1 S.2.1 dX8_letter_5 rfl (lv_at hl 0 rfl) ?_
  refine lv_iload_n S.1 S.2.1 dX8_letter_6 rfl (lv_at hl 1 rfl) ?_
  refine lv_iload_n S.1 S.2.1 dX8_letter_7 rfl (lv_at hl 2 rfl) ?_
  refine R_cVi (As := [.int x1, .int x2]) (rest := []) S (c_X8_noWord (h12 := h12)  hf) gX8_letter_X8_noWord rfl yk_X8_noWord ⟨⟨Nat.le_of_ble_eq_true rfl, Nat.le_of_ble_eq_true rfl⟩, rfl, rfl⟩ hK hP hD hS hX hA (h12 0 (by decide)) (cF_m E _ _ 0) rfl rfl hl.1 rfl (Nat.le_of_ble_eq_true rfl) ⟨Nat.zero_le _, Nat.zero_le _⟩ dX8_letter_8 (fun v_4 I_2 J_3 H locs hf hP hD hS => ?_)
  refine lv_if_ne (tgt := 43) S.1 S.2.1 dX8_letter_11 (by decide) (fun h_5 => ?_) (fun h_5 => ?_)
  · have hf := hf.2 h_5
    refine lv_iconst (v := 0) S.1 S.2.1 dX8_letter_43 rfl ?_
    refine lv_goto (tgt := 61) S.1 S.2.1 dX8_letter_44 (by decide) ?_
    exact hret hf rfl hP hD hS dX8_letter_61
  · have hf := hf.1 h_5
    refine lv_aload_n S.1 S.2.1 dX8_letter_14 rfl (lv_at hl 0 rfl) ?_
    refine lv_iload_n S.1 S.2.1 dX8_letter_15 rfl (lv_at hl 3 rfl) ?_
    refine lv_iconst (v := 0) S.1 S.2.1 dX8_letter_16 rfl ?_
    refine lv_aload_n S.1 S.2.1 dX8_letter_17 rfl (lv_at hl 0 rfl) ?_
    refine lv_iload_n S.1 S.2.1 dX8_letter_18 rfl (lv_at hl 1 rfl) ?_
    refine lv_iload_n S.1 S.2.1 dX8_letter_19 rfl (lv_at hl 2 rfl) ?_
    refine R_cVi (As := [.int x1, .int x2]) (rest := [.int (0 : Int32), .int x3, .ref (eA E 12 0)]) S (c_X8_lengthOf (h12 := h12)  hf) gX8_letter_X8_lengthOf rfl yk_X8_lengthOf ⟨⟨Nat.le_of_ble_eq_true rfl, Nat.le_of_ble_eq_true rfl⟩, rfl, rfl⟩ hK hP hD hS hX hA (h12 0 (by decide)) (cF_m E _ _ 0) rfl rfl hl.1 rfl (Nat.le_of_ble_eq_true rfl) ⟨Nat.zero_le _, Nat.zero_le _⟩ dX8_letter_20 (fun v_8 I_6 J_7 H locs hf hP hD hS => ?_)
    refine lv_iconst (v := 1) S.1 S.2.1 dX8_letter_23 rfl ?_
    refine lv_isub S.1 S.2.1 dX8_letter_24 ?_
    refine R_cSi (As := [.int x3, .int (0 : Int32), .int (v_8 - (1 : Int32))]) (rest := [.ref (eA E 12 0)]) S (c_X8_in   hf) gX8_letter_X8_in rfl yk_X8_in ⟨⟨Nat.le_of_ble_eq_true rfl, Nat.le_of_ble_eq_true rfl⟩, rfl, rfl⟩ hK hP hD hS hX hA rfl hl.1 rfl (Nat.le_of_ble_eq_true rfl) ⟨Nat.zero_le _, Nat.zero_le _⟩ dX8_letter_25 (fun v_11 I_9 J_10 H locs hf hP hD hS => ?_)
    refine lv_if_ne (tgt := 35) S.1 S.2.1 dX8_letter_28 (by decide) (fun h_12 => ?_) (fun h_12 => ?_)
    · have hf := hf.2 h_12
      refine lv_iconst (v := 0) S.1 S.2.1 dX8_letter_35 rfl ?_
      exact jn36 _ _ _ _ _ _ hf _ _ _ hP hD hS (lv_sub hl [0, 1, 2, 3] rfl)
    · have hf := hf.1 h_12
      refine lv_iconst (v := 1) S.1 S.2.1 dX8_letter_31 rfl ?_
      refine lv_goto (tgt := 36) S.1 S.2.1 dX8_letter_32 (by decide) ?_
      exact jn36 _ _ _ _ _ _ hf _ _ _ hP hD hS (lv_sub hl [0, 1, 2, 3] rfl)
abbrev rmX8_alike : Room := { frames := 1, cells := 0, slots := 0, locals := 22 }
theorem yk_X8_alike : yOk yX8_alike RX8 2 := by unfold yOk; decide +kernel
def f_X8_alike_J31 (Q : Int32 → MI → MJ → Prop) (x1_10 : Int32) (x2_11 : Int32) (s_12 : Int32) (I_13 : MI) (J_14 : MJ) : Prop :=
  f_X8_fails s_12 (1 : Int32) I_13 J_14 (fun (v_17 : Int32) (I_15 : MI) (J_16 : MJ) => ((v_17 = (0 : Int32) → f_X8_areAlike x1_10 x2_11 I_15 J_16 (fun (v_21 : Int32) (I_19 : MI) (J_20 : MJ) => ((v_21 = (0 : Int32) → Q (0 : Int32) I_19 J_20) ∧ (¬ v_21 = (0 : Int32) → Q (1 : Int32) I_19 J_20)))) ∧ (¬ v_17 = (0 : Int32) → Q (0 : Int32) I_15 J_16)))
def f_X8_alike_J26 (Q : Int32 → MI → MJ → Prop) (x1_6 : Int32) (x2_7 : Int32) (I_8 : MI) (J_9 : MJ) : Prop :=
  f_X8_alike_J31 Q x1_6 x2_7 (1 : Int32) I_8 J_9
def f_X8_alike (x1 : Int32) (x2 : Int32) (I : MI) (J : MJ) (Q : Int32 → MI → MJ → Prop) : Prop :=
  ∀ I_1 : MI, I_1 = sI I 12 0 0 (0 : Int32) → f_X8_in x1 (0 : Int32) (25 : Int32) I_1 J (fun (v_4 : Int32) (I_2 : MI) (J_3 : MJ) => ((v_4 = (0 : Int32) → f_X8_alike_J26 Q x1 x2 I_2 J_3) ∧ (¬ v_4 = (0 : Int32) → f_X8_in x2 (0 : Int32) (25 : Int32) I_2 J_3 (fun (v_25 : Int32) (I_23 : MI) (J_24 : MJ) => ((v_25 = (0 : Int32) → f_X8_alike_J26 Q x1 x2 I_23 J_24) ∧ (¬ v_25 = (0 : Int32) → f_X8_alike_J31 Q x1 x2 (0 : Int32) I_23 J_24))))))
set_option maxRecDepth 100000 in
set_option maxHeartbeats 4000000 in
theorem c_X8_alike {l : Launch} {E : EV} {ps : List (Nat × Nat)} (h12 : ∀ r, r < 17 → (12, r) ∈ ps) {x1 : Int32} {x2 : Int32} {I : MI} {J : MJ} {Q : Int32 → MI → MJ → Prop} (hf : f_X8_alike x1 x2 I J Q) : KI l yX8_alike wsX8_alike rmX8_alike E ps [.ref (eA E 12 0), .int x1, .int x2] I J Q := by
  refine K_ofI (cc := cX8_alike) (maxL := 3) (ty := .boolean) (by decide +kernel) rfl (Nat.le_of_ble_eq_true rfl) (fun p e s m args below meth c Qm hret S hK hX => ?_)
  have hA : ∀ q, s.heap.size ≤ q → AA E ps s.heap.size q := fun _ h => Or.inr h
  have k1 := S.2.2.2.2 (.fieldLink RX8 49 "RhymeRoofsModel" "thrown" "I") (by decide +kernel)
  have iX8 : ∀ w ∈ wsX80, w ∈ wsX8_alike := fun _ h => List.mem_cons_of_mem _ (List.mem_append_right _ h)
  have jn31 : ∀ (x1_10 : Int32) (x2_11 : Int32) (s_12 : Int32) (I_13 : MI) (J_14 : MJ), f_X8_alike_J31 Q x1_10 x2_11 s_12 I_13 J_14 → Wj p l e (rmX8_alike) s m args below meth c Qm E ps 3 I_13 J_14 31 [(0, .ref (eA E 12 0)), (1, .int x1_10), (2, .int x2_11)] [.int s_12, .ref (eA E 12 0)] := by
    intro x1_10 x2_11 s_12 I_13 J_14 hf H locs ls hP hD hS hl
    unfold f_X8_alike_J31 at hf
    refine lv_iconst (v := 1) S.1 S.2.1 dX8_alike_31 rfl ?_
    refine R_cVi (As := [.int s_12, .int (1 : Int32)]) (rest := []) S (c_X8_fails (h12 := h12)  hf) gX8_alike_X8_fails rfl yk_X8_fails ⟨⟨Nat.le_of_ble_eq_true rfl, Nat.le_of_ble_eq_true rfl⟩, rfl, rfl⟩ hK hP hD hS hX hA (h12 0 (by decide)) (cF_m E _ _ 0) rfl rfl hl.1 rfl (Nat.le_of_ble_eq_true rfl) ⟨Nat.zero_le _, Nat.zero_le _⟩ dX8_alike_32 (fun v_17 I_15 J_16 H locs hf hP hD hS => ?_)
    refine lv_if_ne (tgt := 51) S.1 S.2.1 dX8_alike_35 (by decide) (fun h_18 => ?_) (fun h_18 => ?_)
    · have hf := hf.2 h_18
      refine lv_iconst (v := 0) S.1 S.2.1 dX8_alike_51 rfl ?_
      exact hret hf rfl hP hD hS dX8_alike_52
    · have hf := hf.1 h_18
      refine lv_aload_n S.1 S.2.1 dX8_alike_38 rfl (lv_at hl 0 rfl) ?_
      refine lv_iload_n S.1 S.2.1 dX8_alike_39 rfl (lv_at hl 1 rfl) ?_
      refine lv_iload_n S.1 S.2.1 dX8_alike_40 rfl (lv_at hl 2 rfl) ?_
      refine R_cVi (As := [.int x1_10, .int x2_11]) (rest := []) S (c_X8_areAlike (h12 := h12)  hf) gX8_alike_X8_areAlike rfl yk_X8_areAlike ⟨⟨Nat.le_of_ble_eq_true rfl, Nat.le_of_ble_eq_true rfl⟩, rfl, rfl⟩ hK hP hD hS hX hA (h12 0 (by decide)) (cF_m E _ _ 0) rfl rfl hl.1 rfl (Nat.le_of_ble_eq_true rfl) ⟨Nat.zero_le _, Nat.zero_le _⟩ dX8_alike_41 (fun v_21 I_19 J_20 H locs hf hP hD hS => ?_)
      refine lv_if_eq (tgt := 51) S.1 S.2.1 dX8_alike_44 (by decide) (fun h_22 => ?_) (fun h_22 => ?_)
      · have hf := hf.1 h_22
        refine lv_iconst (v := 0) S.1 S.2.1 dX8_alike_51 rfl ?_
        exact hret hf rfl hP hD hS dX8_alike_52
      · have hf := hf.2 h_22
        refine lv_iconst (v := 1) S.1 S.2.1 dX8_alike_47 rfl ?_
        refine lv_goto (tgt := 52) S.1 S.2.1 dX8_alike_48 (by decide) ?_
        exact hret hf rfl hP hD hS dX8_alike_52
  have jn26 : ∀ (x1_6 : Int32) (x2_7 : Int32) (I_8 : MI) (J_9 : MJ), f_X8_alike_J26 Q x1_6 x2_7 I_8 J_9 → Wj p l e (rmX8_alike) s m args below meth c Qm E ps 3 I_8 J_9 26 [(0, .ref (eA E 12 0)), (1, .int x1_6), (2, .int x2_7)] [.ref (eA E 12 0)] := by
    intro x1_6 x2_7 I_8 J_9 hf H locs ls hP hD hS hl
    unfold f_X8_alike_J26 at hf
    refine lv_iconst (v := 1) S.1 S.2.1 dX8_alike_26 rfl ?_
    refine lv_goto (tgt := 31) S.1 S.2.1 dX8_alike_27 (by decide) ?_
    exact jn31 _ _ _ _ _ hf _ _ _ hP hD hS (lv_sub hl [0, 1, 2] rfl)
  intro H locs ls hP hD hS hl
  unfold f_X8_alike at hf
  refine lv_aload_n S.1 S.2.1 dX8_alike_0 rfl (lv_at hl 0 rfl) ?_
  refine lv_iconst (v := 0) S.1 S.2.1 dX8_alike_1 rfl ?_
  refine nm_o hf (fun I_1 eI_1 hf => ?_)
  refine pfX8_0 S iX8 hK hP hD hS (h12 0 (by decide)) k1 dX8_alike_2 eI_1 (fun H locs hP hD hS => ?_)
  refine lv_aload_n S.1 S.2.1 dX8_alike_5 rfl (lv_at hl 0 rfl) ?_
  refine lv_iload_n S.1 S.2.1 dX8_alike_6 rfl (lv_at hl 1 rfl) ?_
  refine lv_iconst (v := 0) S.1 S.2.1 dX8_alike_7 rfl ?_
  refine lv_bipush (v := 25) S.1 S.2.1 dX8_alike_8 rfl ?_
  refine R_cSi (As := [.int x1, .int (0 : Int32), .int (25 : Int32)]) (rest := [.ref (eA E 12 0)]) S (c_X8_in   hf) gX8_alike_X8_in rfl yk_X8_in ⟨⟨Nat.le_of_ble_eq_true rfl, Nat.le_of_ble_eq_true rfl⟩, rfl, rfl⟩ hK hP hD hS hX hA rfl hl.1 rfl (Nat.le_of_ble_eq_true rfl) ⟨Nat.zero_le _, Nat.zero_le _⟩ dX8_alike_10 (fun v_4 I_2 J_3 H locs hf hP hD hS => ?_)
  refine lv_if_eq (tgt := 26) S.1 S.2.1 dX8_alike_13 (by decide) (fun h_5 => ?_) (fun h_5 => ?_)
  · have hf := hf.1 h_5
    exact jn26 _ _ _ _ hf _ _ _ hP hD hS (lv_sub hl [0, 1, 2] rfl)
  · have hf := hf.2 h_5
    refine lv_iload_n S.1 S.2.1 dX8_alike_16 rfl (lv_at hl 2 rfl) ?_
    refine lv_iconst (v := 0) S.1 S.2.1 dX8_alike_17 rfl ?_
    refine lv_bipush (v := 25) S.1 S.2.1 dX8_alike_18 rfl ?_
    refine R_cSi (As := [.int x2, .int (0 : Int32), .int (25 : Int32)]) (rest := [.ref (eA E 12 0)]) S (c_X8_in   hf) gX8_alike_X8_in rfl yk_X8_in ⟨⟨Nat.le_of_ble_eq_true rfl, Nat.le_of_ble_eq_true rfl⟩, rfl, rfl⟩ hK hP hD hS hX hA rfl hl.1 rfl (Nat.le_of_ble_eq_true rfl) ⟨Nat.zero_le _, Nat.zero_le _⟩ dX8_alike_20 (fun v_25 I_23 J_24 H locs hf hP hD hS => ?_)
    refine lv_if_ne (tgt := 30) S.1 S.2.1 dX8_alike_23 (by decide) (fun h_26 => ?_) (fun h_26 => ?_)
    · have hf := hf.2 h_26
      refine lv_iconst (v := 0) S.1 S.2.1 dX8_alike_30 rfl ?_
      exact jn31 _ _ _ _ _ hf _ _ _ hP hD hS (lv_sub hl [0, 1, 2] rfl)
    · have hf := hf.1 h_26
      exact jn26 _ _ _ _ hf _ _ _ hP hD hS (lv_sub hl [0, 1, 2] rfl)
