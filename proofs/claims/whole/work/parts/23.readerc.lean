abbrev rmX5_tellOnce : Room := { frames := 1, cells := 0, slots := 0, locals := 22 }
theorem yk_X5_tellOnce : yOk yX5_tellOnce RX5 1 := by unfold yOk; decide +kernel
def f_X5_tellOnce (x1 : Int32) (I : MI) (J : MJ) (Q : Int32 → MI → MJ → Prop) : Prop :=
  ((((I 11 4 8) &&& x1) = (0 : Int32) → ∀ I_2 : MI, I_2 = sI I 11 4 8 ((I 11 4 8) ||| x1) → Q (1 : Int32) I_2 J) ∧ (¬ ((I 11 4 8) &&& x1) = (0 : Int32) → f_X5_fail (-2 : Int32) (I 11 4 7) I J (fun (v_5 : Int32) (I_3 : MI) (J_4 : MJ) => (bo v_5 ∧ Q v_5 I_3 J_4))))
set_option maxRecDepth 100000 in
set_option maxHeartbeats 4000000 in
theorem c_X5_tellOnce {l : Launch} {E : EV} {ps : List (Nat × Nat)} (h11 : ∀ r, r < 11 → (11, r) ∈ ps) (hG : ∀ k r, k < 11 → r < 16 → (k, r) ∈ ps) {x1 : Int32} {I : MI} {J : MJ} {Q : Int32 → MI → MJ → Prop} (hf : f_X5_tellOnce x1 I J Q) : KI l yX5_tellOnce wsX5_tellOnce rmX5_tellOnce E ps [.ref (eA E 11 4), .int x1] I J Q := by
  refine K_ofI (cc := cX5_tellOnce) (maxL := 2) (ty := .boolean) (by decide +kernel) rfl (Nat.le_of_ble_eq_true rfl) (fun p e s m args below meth c Qm hret S hK hX => ?_)
  have hA : ∀ q, s.heap.size ≤ q → AA E ps s.heap.size q := fun _ h => Or.inr h
  have k1 := S.2.2.2.2 (.fieldLink RX5 47 "RhymeRoofs$SetupReader" "told" "I") (by decide +kernel)
  have iX5 : ∀ w ∈ wsX50, w ∈ wsX5_tellOnce := fun _ h => List.mem_cons_of_mem _ (List.mem_append_right _ h)
  have k2 := S.2.2.2.2 (.fieldLink RX5 85 "RhymeRoofs$SetupReader" "tokenStart" "I") (by decide +kernel)
  intro H locs ls hP hD hS hl
  unfold f_X5_tellOnce at hf
  refine lv_aload_n S.1 S.2.1 dX5_tellOnce_0 rfl (lv_at hl 0 rfl) ?_
  refine gfX5_8 S iX5 hK hP (h11 4 (by decide)) k1 dX5_tellOnce_1 ?_
  refine lv_iload_n S.1 S.2.1 dX5_tellOnce_4 rfl (lv_at hl 1 rfl) ?_
  refine lv_iand S.1 S.2.1 dX5_tellOnce_5 ?_
  refine lv_if_eq (tgt := 20) S.1 S.2.1 dX5_tellOnce_6 (by decide) (fun h_1 => ?_) (fun h_1 => ?_)
  · have hf := hf.1 h_1
    refine lv_aload_n S.1 S.2.1 dX5_tellOnce_20 rfl (lv_at hl 0 rfl) ?_
    refine lv_dup S.1 S.2.1 dX5_tellOnce_21 rfl ?_
    refine gfX5_8 S iX5 hK hP (h11 4 (by decide)) k1 dX5_tellOnce_22 ?_
    refine lv_iload_n S.1 S.2.1 dX5_tellOnce_25 rfl (lv_at hl 1 rfl) ?_
    refine lv_ior S.1 S.2.1 dX5_tellOnce_26 ?_
    refine nm_o hf (fun I_2 eI_2 hf => ?_)
    refine pfX5_8 S iX5 hK hP hD hS (h11 4 (by decide)) k1 dX5_tellOnce_27 eI_2 (fun H locs hP hD hS => ?_)
    refine lv_iconst (v := 1) S.1 S.2.1 dX5_tellOnce_30 rfl ?_
    exact hret hf rfl hP hD hS dX5_tellOnce_31
  · have hf := hf.2 h_1
    refine lv_aload_n S.1 S.2.1 dX5_tellOnce_9 rfl (lv_at hl 0 rfl) ?_
    refine lv_bipush (v := (-2)) S.1 S.2.1 dX5_tellOnce_10 rfl ?_
    refine lv_aload_n S.1 S.2.1 dX5_tellOnce_12 rfl (lv_at hl 0 rfl) ?_
    refine gfX5_7 S iX5 hK hP (h11 4 (by decide)) k2 dX5_tellOnce_13 ?_
    refine R_cVi (As := [.int (-2 : Int32), .int (I 11 4 7)]) (rest := []) S (c_X5_fail (h11 := h11) (hG := hG)  hf) gX5_tellOnce_X5_fail rfl yk_X5_fail ⟨⟨Nat.le_of_ble_eq_true rfl, Nat.le_of_ble_eq_true rfl⟩, rfl, rfl⟩ hK hP hD hS hX hA (h11 4 (by decide)) (cF_o E _ _ 4) rfl rfl hl.1 rfl (Nat.le_of_ble_eq_true rfl) ⟨Nat.zero_le _, Nat.zero_le _⟩ dX5_tellOnce_16 (fun v_5 I_3 J_4 H locs hf hP hD hS => ?_)
    obtain ⟨h_6, hf⟩ := hf
    exact hret hf h_6.1 hP hD hS dX5_tellOnce_19
abbrev rmX5_readPlayers : Room := { frames := 2, cells := 0, slots := 0, locals := 86 }
theorem yk_X5_readPlayers : yOk yX5_readPlayers RX5 0 := by unfold yOk; decide +kernel
def f_X5_readPlayers (I : MI) (J : MJ) (Q : Int32 → MI → MJ → Prop) : Prop :=
  (((I 11 4 9) = (0 : Int32) → f_X5_tellOnce (1 : Int32) I J (fun (v_4 : Int32) (I_2 : MI) (J_3 : MJ) => ((v_4 = (0 : Int32) → Q (0 : Int32) I_2 J_3) ∧ (¬ v_4 = (0 : Int32) → f_X5_readNumber (2 : Int32) (4 : Int32) I_2 J_3 (fun (v_8 : Int32) (I_6 : MI) (J_7 : MJ) => ((v_8 = (0 : Int32) → Q (0 : Int32) I_6 J_7) ∧ (¬ v_8 = (0 : Int32) → ∀ I_10 : MI, I_10 = sI I_6 10 1 4 (I_6 11 4 6) → Q (1 : Int32) I_10 J_7))))))) ∧ (¬ (I 11 4 9) = (0 : Int32) → f_X5_fail (-2 : Int32) (I 11 4 7) I J (fun (v_13 : Int32) (I_11 : MI) (J_12 : MJ) => (bo v_13 ∧ Q v_13 I_11 J_12))))
set_option maxRecDepth 100000 in
set_option maxHeartbeats 4000000 in
theorem c_X5_readPlayers {l : Launch} {E : EV} {ps : List (Nat × Nat)} (h11 : ∀ r, r < 11 → (11, r) ∈ ps) (hG : ∀ k r, k < 11 → r < 16 → (k, r) ∈ ps) {I : MI} {J : MJ} {Q : Int32 → MI → MJ → Prop} (hf : f_X5_readPlayers I J Q) : KI l yX5_readPlayers wsX5_readPlayers rmX5_readPlayers E ps [.ref (eA E 11 4)] I J Q := by
  refine K_ofI (cc := cX5_readPlayers) (maxL := 1) (ty := .boolean) (by decide +kernel) rfl (Nat.le_of_ble_eq_true rfl) (fun p e s m args below meth c Qm hret S hK hX => ?_)
  have hA : ∀ q, s.heap.size ≤ q → AA E ps s.heap.size q := fun _ h => Or.inr h
  have k1 := S.2.2.2.2 (.fieldLink RX5 50 "RhymeRoofs$SetupReader" "handTold" "Z") (by decide +kernel)
  have iX5 : ∀ w ∈ wsX50, w ∈ wsX5_readPlayers := fun _ h => List.mem_cons_of_mem _ (List.mem_append_left _ (List.mem_append_left _ (List.mem_append_right _ h)))
  have k2 := S.2.2.2.2 (.fieldLink RX5 12 "RhymeRoofs$SetupReader" "game" "LRhymeRoofs$Game;") (by decide +kernel)
  have k3 := S.2.2.2.2 (.fieldLink RX5 115 "RhymeRoofs$Game" "rules" "LRhymeRoofs$Rules;") (by decide +kernel)
  have iX1 : ∀ w ∈ wsX10, w ∈ wsX5_readPlayers := fun _ h => List.mem_cons_of_mem _ (List.mem_append_left _ (List.mem_append_right _ h))
  have k4 := S.2.2.2.2 (.fieldLink RX5 88 "RhymeRoofs$SetupReader" "number" "I") (by decide +kernel)
  have k5 := S.2.2.2.2 (.fieldLink RX5 176 "RhymeRoofs$Rules" "players" "I") (by decide +kernel)
  have iX4 : ∀ w ∈ wsX40, w ∈ wsX5_readPlayers := fun _ h => List.mem_cons_of_mem _ (List.mem_append_right _ h)
  have k6 := S.2.2.2.2 (.fieldLink RX5 85 "RhymeRoofs$SetupReader" "tokenStart" "I") (by decide +kernel)
  intro H locs ls hP hD hS hl
  unfold f_X5_readPlayers at hf
  refine lv_aload_n S.1 S.2.1 dX5_readPlayers_0 rfl (lv_at hl 0 rfl) ?_
  refine gfX5_9 S iX5 hK hP (h11 4 (by decide)) k1 dX5_readPlayers_1 ?_
  refine lv_if_eq (tgt := 18) S.1 S.2.1 dX5_readPlayers_4 (by decide) (fun h_1 => ?_) (fun h_1 => ?_)
  · have hf := hf.1 h_1
    refine lv_aload_n S.1 S.2.1 dX5_readPlayers_18 rfl (lv_at hl 0 rfl) ?_
    refine lv_iconst (v := 1) S.1 S.2.1 dX5_readPlayers_19 rfl ?_
    refine R_cVi (As := [.int (1 : Int32)]) (rest := []) S (c_X5_tellOnce (h11 := h11) (hG := hG)  hf) gX5_readPlayers_X5_tellOnce rfl yk_X5_tellOnce ⟨⟨Nat.le_of_ble_eq_true rfl, Nat.le_of_ble_eq_true rfl⟩, rfl, rfl⟩ hK hP hD hS hX hA (h11 4 (by decide)) (cF_o E _ _ 4) rfl rfl hl.1 rfl (Nat.le_of_ble_eq_true rfl) ⟨Nat.zero_le _, Nat.zero_le _⟩ dX5_readPlayers_20 (fun v_4 I_2 J_3 H locs hf hP hD hS => ?_)
    refine lv_if_eq (tgt := 35) S.1 S.2.1 dX5_readPlayers_23 (by decide) (fun h_5 => ?_) (fun h_5 => ?_)
    · have hf := hf.1 h_5
      refine lv_iconst (v := 0) S.1 S.2.1 dX5_readPlayers_35 rfl ?_
      exact hret hf rfl hP hD hS dX5_readPlayers_36
    · have hf := hf.2 h_5
      refine lv_aload_n S.1 S.2.1 dX5_readPlayers_26 rfl (lv_at hl 0 rfl) ?_
      refine lv_iconst (v := 2) S.1 S.2.1 dX5_readPlayers_27 rfl ?_
      refine lv_iconst (v := 4) S.1 S.2.1 dX5_readPlayers_28 rfl ?_
      refine R_cVi (As := [.int (2 : Int32), .int (4 : Int32)]) (rest := []) S (c_X5_readNumber (h11 := h11) (hG := hG)  hf) gX5_readPlayers_X5_readNumber rfl yk_X5_readNumber ⟨⟨Nat.le_of_ble_eq_true rfl, Nat.le_of_ble_eq_true rfl⟩, rfl, rfl⟩ hK hP hD hS hX hA (h11 4 (by decide)) (cF_o E _ _ 4) rfl rfl hl.1 rfl (Nat.le_of_ble_eq_true rfl) ⟨Nat.zero_le _, Nat.zero_le _⟩ dX5_readPlayers_29 (fun v_8 I_6 J_7 H locs hf hP hD hS => ?_)
      refine lv_if_ne (tgt := 37) S.1 S.2.1 dX5_readPlayers_32 (by decide) (fun h_9 => ?_) (fun h_9 => ?_)
      · have hf := hf.2 h_9
        refine lv_aload_n S.1 S.2.1 dX5_readPlayers_37 rfl (lv_at hl 0 rfl) ?_
        refine gfX5_0 S iX5 hK hP (h11 4 (by decide)) k2 dX5_readPlayers_38 ?_
        refine gfX1_0 S iX1 hK hP (by decide) ((fun r => hG 10 r (by decide)) 0 (by decide)) k3 dX5_readPlayers_41 ?_
        refine lv_aload_n S.1 S.2.1 dX5_readPlayers_44 rfl (lv_at hl 0 rfl) ?_
        refine gfX5_6 S iX5 hK hP (h11 4 (by decide)) k4 dX5_readPlayers_45 ?_
        refine nm_o hf (fun I_10 eI_10 hf => ?_)
        refine pfX4_4 S iX4 hK hP hD hS (by decide) ((fun r => hG 10 r (by decide)) 1 (by decide)) k5 dX5_readPlayers_48 eI_10 (fun H locs hP hD hS => ?_)
        refine lv_iconst (v := 1) S.1 S.2.1 dX5_readPlayers_51 rfl ?_
        exact hret hf rfl hP hD hS dX5_readPlayers_52
      · have hf := hf.1 h_9
        refine lv_iconst (v := 0) S.1 S.2.1 dX5_readPlayers_35 rfl ?_
        exact hret hf rfl hP hD hS dX5_readPlayers_36
  · have hf := hf.2 h_1
    refine lv_aload_n S.1 S.2.1 dX5_readPlayers_7 rfl (lv_at hl 0 rfl) ?_
    refine lv_bipush (v := (-2)) S.1 S.2.1 dX5_readPlayers_8 rfl ?_
    refine lv_aload_n S.1 S.2.1 dX5_readPlayers_10 rfl (lv_at hl 0 rfl) ?_
    refine gfX5_7 S iX5 hK hP (h11 4 (by decide)) k6 dX5_readPlayers_11 ?_
    refine R_cVi (As := [.int (-2 : Int32), .int (I 11 4 7)]) (rest := []) S (c_X5_fail (h11 := h11) (hG := hG)  hf) gX5_readPlayers_X5_fail rfl yk_X5_fail ⟨⟨Nat.le_of_ble_eq_true rfl, Nat.le_of_ble_eq_true rfl⟩, rfl, rfl⟩ hK hP hD hS hX hA (h11 4 (by decide)) (cF_o E _ _ 4) rfl rfl hl.1 rfl (Nat.le_of_ble_eq_true rfl) ⟨Nat.zero_le _, Nat.zero_le _⟩ dX5_readPlayers_14 (fun v_13 I_11 J_12 H locs hf hP hD hS => ?_)
    obtain ⟨h_14, hf⟩ := hf
    exact hret hf h_14.1 hP hD hS dX5_readPlayers_17
abbrev rmX5_readNeed : Room := { frames := 2, cells := 0, slots := 0, locals := 86 }
theorem yk_X5_readNeed : yOk yX5_readNeed RX5 0 := by unfold yOk; decide +kernel
def f_X5_readNeed (I : MI) (J : MJ) (Q : Int32 → MI → MJ → Prop) : Prop :=
  f_X5_tellOnce (2 : Int32) I J (fun (v_3 : Int32) (I_1 : MI) (J_2 : MJ) => ((v_3 = (0 : Int32) → Q (0 : Int32) I_1 J_2) ∧ (¬ v_3 = (0 : Int32) → f_X5_readNumber (1 : Int32) (4 : Int32) I_1 J_2 (fun (v_7 : Int32) (I_5 : MI) (J_6 : MJ) => ((v_7 = (0 : Int32) → Q (0 : Int32) I_5 J_6) ∧ (¬ v_7 = (0 : Int32) → ∀ I_9 : MI, I_9 = sI I_5 10 1 5 (I_5 11 4 6) → Q (1 : Int32) I_9 J_6))))))
set_option maxRecDepth 100000 in
set_option maxHeartbeats 4000000 in
theorem c_X5_readNeed {l : Launch} {E : EV} {ps : List (Nat × Nat)} (h11 : ∀ r, r < 11 → (11, r) ∈ ps) (hG : ∀ k r, k < 11 → r < 16 → (k, r) ∈ ps) {I : MI} {J : MJ} {Q : Int32 → MI → MJ → Prop} (hf : f_X5_readNeed I J Q) : KI l yX5_readNeed wsX5_readNeed rmX5_readNeed E ps [.ref (eA E 11 4)] I J Q := by
  refine K_ofI (cc := cX5_readNeed) (maxL := 1) (ty := .boolean) (by decide +kernel) rfl (Nat.le_of_ble_eq_true rfl) (fun p e s m args below meth c Qm hret S hK hX => ?_)
  have hA : ∀ q, s.heap.size ≤ q → AA E ps s.heap.size q := fun _ h => Or.inr h
  have k1 := S.2.2.2.2 (.fieldLink RX5 12 "RhymeRoofs$SetupReader" "game" "LRhymeRoofs$Game;") (by decide +kernel)
  have iX5 : ∀ w ∈ wsX50, w ∈ wsX5_readNeed := fun _ h => List.mem_cons_of_mem _ (List.mem_append_left _ (List.mem_append_left _ (List.mem_append_right _ h)))
  have k2 := S.2.2.2.2 (.fieldLink RX5 115 "RhymeRoofs$Game" "rules" "LRhymeRoofs$Rules;") (by decide +kernel)
  have iX1 : ∀ w ∈ wsX10, w ∈ wsX5_readNeed := fun _ h => List.mem_cons_of_mem _ (List.mem_append_left _ (List.mem_append_right _ h))
  have k3 := S.2.2.2.2 (.fieldLink RX5 88 "RhymeRoofs$SetupReader" "number" "I") (by decide +kernel)
  have k4 := S.2.2.2.2 (.fieldLink RX5 178 "RhymeRoofs$Rules" "need" "I") (by decide +kernel)
  have iX4 : ∀ w ∈ wsX40, w ∈ wsX5_readNeed := fun _ h => List.mem_cons_of_mem _ (List.mem_append_right _ h)
  intro H locs ls hP hD hS hl
  unfold f_X5_readNeed at hf
  refine lv_aload_n S.1 S.2.1 dX5_readNeed_0 rfl (lv_at hl 0 rfl) ?_
  refine lv_iconst (v := 2) S.1 S.2.1 dX5_readNeed_1 rfl ?_
  refine R_cVi (As := [.int (2 : Int32)]) (rest := []) S (c_X5_tellOnce (h11 := h11) (hG := hG)  hf) gX5_readNeed_X5_tellOnce rfl yk_X5_tellOnce ⟨⟨Nat.le_of_ble_eq_true rfl, Nat.le_of_ble_eq_true rfl⟩, rfl, rfl⟩ hK hP hD hS hX hA (h11 4 (by decide)) (cF_o E _ _ 4) rfl rfl hl.1 rfl (Nat.le_of_ble_eq_true rfl) ⟨Nat.zero_le _, Nat.zero_le _⟩ dX5_readNeed_2 (fun v_3 I_1 J_2 H locs hf hP hD hS => ?_)
  refine lv_if_eq (tgt := 17) S.1 S.2.1 dX5_readNeed_5 (by decide) (fun h_4 => ?_) (fun h_4 => ?_)
  · have hf := hf.1 h_4
    refine lv_iconst (v := 0) S.1 S.2.1 dX5_readNeed_17 rfl ?_
    exact hret hf rfl hP hD hS dX5_readNeed_18
  · have hf := hf.2 h_4
    refine lv_aload_n S.1 S.2.1 dX5_readNeed_8 rfl (lv_at hl 0 rfl) ?_
    refine lv_iconst (v := 1) S.1 S.2.1 dX5_readNeed_9 rfl ?_
    refine lv_iconst (v := 4) S.1 S.2.1 dX5_readNeed_10 rfl ?_
    refine R_cVi (As := [.int (1 : Int32), .int (4 : Int32)]) (rest := []) S (c_X5_readNumber (h11 := h11) (hG := hG)  hf) gX5_readNeed_X5_readNumber rfl yk_X5_readNumber ⟨⟨Nat.le_of_ble_eq_true rfl, Nat.le_of_ble_eq_true rfl⟩, rfl, rfl⟩ hK hP hD hS hX hA (h11 4 (by decide)) (cF_o E _ _ 4) rfl rfl hl.1 rfl (Nat.le_of_ble_eq_true rfl) ⟨Nat.zero_le _, Nat.zero_le _⟩ dX5_readNeed_11 (fun v_7 I_5 J_6 H locs hf hP hD hS => ?_)
    refine lv_if_ne (tgt := 19) S.1 S.2.1 dX5_readNeed_14 (by decide) (fun h_8 => ?_) (fun h_8 => ?_)
    · have hf := hf.2 h_8
      refine lv_aload_n S.1 S.2.1 dX5_readNeed_19 rfl (lv_at hl 0 rfl) ?_
      refine gfX5_0 S iX5 hK hP (h11 4 (by decide)) k1 dX5_readNeed_20 ?_
      refine gfX1_0 S iX1 hK hP (by decide) ((fun r => hG 10 r (by decide)) 0 (by decide)) k2 dX5_readNeed_23 ?_
      refine lv_aload_n S.1 S.2.1 dX5_readNeed_26 rfl (lv_at hl 0 rfl) ?_
      refine gfX5_6 S iX5 hK hP (h11 4 (by decide)) k3 dX5_readNeed_27 ?_
      refine nm_o hf (fun I_9 eI_9 hf => ?_)
      refine pfX4_5 S iX4 hK hP hD hS (by decide) ((fun r => hG 10 r (by decide)) 1 (by decide)) k4 dX5_readNeed_30 eI_9 (fun H locs hP hD hS => ?_)
      refine lv_iconst (v := 1) S.1 S.2.1 dX5_readNeed_33 rfl ?_
      exact hret hf rfl hP hD hS dX5_readNeed_34
    · have hf := hf.1 h_8
      refine lv_iconst (v := 0) S.1 S.2.1 dX5_readNeed_17 rfl ?_
      exact hret hf rfl hP hD hS dX5_readNeed_18
abbrev rmX5_readBonus : Room := { frames := 2, cells := 0, slots := 0, locals := 86 }
theorem yk_X5_readBonus : yOk yX5_readBonus RX5 0 := by unfold yOk; decide +kernel
def f_X5_readBonus (I : MI) (J : MJ) (Q : Int32 → MI → MJ → Prop) : Prop :=
  f_X5_tellOnce (4 : Int32) I J (fun (v_3 : Int32) (I_1 : MI) (J_2 : MJ) => ((v_3 = (0 : Int32) → Q (0 : Int32) I_1 J_2) ∧ (¬ v_3 = (0 : Int32) → f_X5_readNumber (0 : Int32) (9 : Int32) I_1 J_2 (fun (v_7 : Int32) (I_5 : MI) (J_6 : MJ) => ((v_7 = (0 : Int32) → Q (0 : Int32) I_5 J_6) ∧ (¬ v_7 = (0 : Int32) → ∀ I_9 : MI, I_9 = sI I_5 10 1 6 (I_5 11 4 6) → Q (1 : Int32) I_9 J_6))))))
set_option maxRecDepth 100000 in
set_option maxHeartbeats 4000000 in
theorem c_X5_readBonus {l : Launch} {E : EV} {ps : List (Nat × Nat)} (h11 : ∀ r, r < 11 → (11, r) ∈ ps) (hG : ∀ k r, k < 11 → r < 16 → (k, r) ∈ ps) {I : MI} {J : MJ} {Q : Int32 → MI → MJ → Prop} (hf : f_X5_readBonus I J Q) : KI l yX5_readBonus wsX5_readBonus rmX5_readBonus E ps [.ref (eA E 11 4)] I J Q := by
  refine K_ofI (cc := cX5_readBonus) (maxL := 1) (ty := .boolean) (by decide +kernel) rfl (Nat.le_of_ble_eq_true rfl) (fun p e s m args below meth c Qm hret S hK hX => ?_)
  have hA : ∀ q, s.heap.size ≤ q → AA E ps s.heap.size q := fun _ h => Or.inr h
  have k1 := S.2.2.2.2 (.fieldLink RX5 12 "RhymeRoofs$SetupReader" "game" "LRhymeRoofs$Game;") (by decide +kernel)
  have iX5 : ∀ w ∈ wsX50, w ∈ wsX5_readBonus := fun _ h => List.mem_cons_of_mem _ (List.mem_append_left _ (List.mem_append_left _ (List.mem_append_right _ h)))
  have k2 := S.2.2.2.2 (.fieldLink RX5 115 "RhymeRoofs$Game" "rules" "LRhymeRoofs$Rules;") (by decide +kernel)
  have iX1 : ∀ w ∈ wsX10, w ∈ wsX5_readBonus := fun _ h => List.mem_cons_of_mem _ (List.mem_append_left _ (List.mem_append_right _ h))
  have k3 := S.2.2.2.2 (.fieldLink RX5 88 "RhymeRoofs$SetupReader" "number" "I") (by decide +kernel)
  have k4 := S.2.2.2.2 (.fieldLink RX5 180 "RhymeRoofs$Rules" "bonus" "I") (by decide +kernel)
  have iX4 : ∀ w ∈ wsX40, w ∈ wsX5_readBonus := fun _ h => List.mem_cons_of_mem _ (List.mem_append_right _ h)
  intro H locs ls hP hD hS hl
  unfold f_X5_readBonus at hf
  refine lv_aload_n S.1 S.2.1 dX5_readBonus_0 rfl (lv_at hl 0 rfl) ?_
  refine lv_iconst (v := 4) S.1 S.2.1 dX5_readBonus_1 rfl ?_
  refine R_cVi (As := [.int (4 : Int32)]) (rest := []) S (c_X5_tellOnce (h11 := h11) (hG := hG)  hf) gX5_readBonus_X5_tellOnce rfl yk_X5_tellOnce ⟨⟨Nat.le_of_ble_eq_true rfl, Nat.le_of_ble_eq_true rfl⟩, rfl, rfl⟩ hK hP hD hS hX hA (h11 4 (by decide)) (cF_o E _ _ 4) rfl rfl hl.1 rfl (Nat.le_of_ble_eq_true rfl) ⟨Nat.zero_le _, Nat.zero_le _⟩ dX5_readBonus_2 (fun v_3 I_1 J_2 H locs hf hP hD hS => ?_)
  refine lv_if_eq (tgt := 18) S.1 S.2.1 dX5_readBonus_5 (by decide) (fun h_4 => ?_) (fun h_4 => ?_)
  · have hf := hf.1 h_4
    refine lv_iconst (v := 0) S.1 S.2.1 dX5_readBonus_18 rfl ?_
    exact hret hf rfl hP hD hS dX5_readBonus_19
  · have hf := hf.2 h_4
    refine lv_aload_n S.1 S.2.1 dX5_readBonus_8 rfl (lv_at hl 0 rfl) ?_
    refine lv_iconst (v := 0) S.1 S.2.1 dX5_readBonus_9 rfl ?_
    refine lv_bipush (v := 9) S.1 S.2.1 dX5_readBonus_10 rfl ?_
    refine R_cVi (As := [.int (0 : Int32), .int (9 : Int32)]) (rest := []) S (c_X5_readNumber (h11 := h11) (hG := hG)  hf) gX5_readBonus_X5_readNumber rfl yk_X5_readNumber ⟨⟨Nat.le_of_ble_eq_true rfl, Nat.le_of_ble_eq_true rfl⟩, rfl, rfl⟩ hK hP hD hS hX hA (h11 4 (by decide)) (cF_o E _ _ 4) rfl rfl hl.1 rfl (Nat.le_of_ble_eq_true rfl) ⟨Nat.zero_le _, Nat.zero_le _⟩ dX5_readBonus_12 (fun v_7 I_5 J_6 H locs hf hP hD hS => ?_)
    refine lv_if_ne (tgt := 20) S.1 S.2.1 dX5_readBonus_15 (by decide) (fun h_8 => ?_) (fun h_8 => ?_)
    · have hf := hf.2 h_8
      refine lv_aload_n S.1 S.2.1 dX5_readBonus_20 rfl (lv_at hl 0 rfl) ?_
      refine gfX5_0 S iX5 hK hP (h11 4 (by decide)) k1 dX5_readBonus_21 ?_
      refine gfX1_0 S iX1 hK hP (by decide) ((fun r => hG 10 r (by decide)) 0 (by decide)) k2 dX5_readBonus_24 ?_
      refine lv_aload_n S.1 S.2.1 dX5_readBonus_27 rfl (lv_at hl 0 rfl) ?_
      refine gfX5_6 S iX5 hK hP (h11 4 (by decide)) k3 dX5_readBonus_28 ?_
      refine nm_o hf (fun I_9 eI_9 hf => ?_)
      refine pfX4_6 S iX4 hK hP hD hS (by decide) ((fun r => hG 10 r (by decide)) 1 (by decide)) k4 dX5_readBonus_31 eI_9 (fun H locs hP hD hS => ?_)
      refine lv_iconst (v := 1) S.1 S.2.1 dX5_readBonus_34 rfl ?_
      exact hret hf rfl hP hD hS dX5_readBonus_35
    · have hf := hf.1 h_8
      refine lv_iconst (v := 0) S.1 S.2.1 dX5_readBonus_18 rfl ?_
      exact hret hf rfl hP hD hS dX5_readBonus_19
abbrev rmX5_readCrown : Room := { frames := 2, cells := 0, slots := 0, locals := 86 }
theorem yk_X5_readCrown : yOk yX5_readCrown RX5 0 := by unfold yOk; decide +kernel
def f_X5_readCrown (I : MI) (J : MJ) (Q : Int32 → MI → MJ → Prop) : Prop :=
  f_X5_tellOnce (8 : Int32) I J (fun (v_3 : Int32) (I_1 : MI) (J_2 : MJ) => ((v_3 = (0 : Int32) → Q (0 : Int32) I_1 J_2) ∧ (¬ v_3 = (0 : Int32) → f_X5_readNumber (0 : Int32) (99 : Int32) I_1 J_2 (fun (v_7 : Int32) (I_5 : MI) (J_6 : MJ) => ((v_7 = (0 : Int32) → Q (0 : Int32) I_5 J_6) ∧ (¬ v_7 = (0 : Int32) → ∀ I_9 : MI, I_9 = sI I_5 10 1 7 (I_5 11 4 6) → Q (1 : Int32) I_9 J_6))))))
set_option maxRecDepth 100000 in
set_option maxHeartbeats 4000000 in
theorem c_X5_readCrown {l : Launch} {E : EV} {ps : List (Nat × Nat)} (h11 : ∀ r, r < 11 → (11, r) ∈ ps) (hG : ∀ k r, k < 11 → r < 16 → (k, r) ∈ ps) {I : MI} {J : MJ} {Q : Int32 → MI → MJ → Prop} (hf : f_X5_readCrown I J Q) : KI l yX5_readCrown wsX5_readCrown rmX5_readCrown E ps [.ref (eA E 11 4)] I J Q := by
  refine K_ofI (cc := cX5_readCrown) (maxL := 1) (ty := .boolean) (by decide +kernel) rfl (Nat.le_of_ble_eq_true rfl) (fun p e s m args below meth c Qm hret S hK hX => ?_)
  have hA : ∀ q, s.heap.size ≤ q → AA E ps s.heap.size q := fun _ h => Or.inr h
  have k1 := S.2.2.2.2 (.fieldLink RX5 12 "RhymeRoofs$SetupReader" "game" "LRhymeRoofs$Game;") (by decide +kernel)
  have iX5 : ∀ w ∈ wsX50, w ∈ wsX5_readCrown := fun _ h => List.mem_cons_of_mem _ (List.mem_append_left _ (List.mem_append_left _ (List.mem_append_right _ h)))
  have k2 := S.2.2.2.2 (.fieldLink RX5 115 "RhymeRoofs$Game" "rules" "LRhymeRoofs$Rules;") (by decide +kernel)
  have iX1 : ∀ w ∈ wsX10, w ∈ wsX5_readCrown := fun _ h => List.mem_cons_of_mem _ (List.mem_append_left _ (List.mem_append_right _ h))
  have k3 := S.2.2.2.2 (.fieldLink RX5 88 "RhymeRoofs$SetupReader" "number" "I") (by decide +kernel)
  have k4 := S.2.2.2.2 (.fieldLink RX5 182 "RhymeRoofs$Rules" "crown" "I") (by decide +kernel)
  have iX4 : ∀ w ∈ wsX40, w ∈ wsX5_readCrown := fun _ h => List.mem_cons_of_mem _ (List.mem_append_right _ h)
  intro H locs ls hP hD hS hl
  unfold f_X5_readCrown at hf
  refine lv_aload_n S.1 S.2.1 dX5_readCrown_0 rfl (lv_at hl 0 rfl) ?_
  refine lv_bipush (v := 8) S.1 S.2.1 dX5_readCrown_1 rfl ?_
  refine R_cVi (As := [.int (8 : Int32)]) (rest := []) S (c_X5_tellOnce (h11 := h11) (hG := hG)  hf) gX5_readCrown_X5_tellOnce rfl yk_X5_tellOnce ⟨⟨Nat.le_of_ble_eq_true rfl, Nat.le_of_ble_eq_true rfl⟩, rfl, rfl⟩ hK hP hD hS hX hA (h11 4 (by decide)) (cF_o E _ _ 4) rfl rfl hl.1 rfl (Nat.le_of_ble_eq_true rfl) ⟨Nat.zero_le _, Nat.zero_le _⟩ dX5_readCrown_3 (fun v_3 I_1 J_2 H locs hf hP hD hS => ?_)
  refine lv_if_eq (tgt := 19) S.1 S.2.1 dX5_readCrown_6 (by decide) (fun h_4 => ?_) (fun h_4 => ?_)
  · have hf := hf.1 h_4
    refine lv_iconst (v := 0) S.1 S.2.1 dX5_readCrown_19 rfl ?_
    exact hret hf rfl hP hD hS dX5_readCrown_20
  · have hf := hf.2 h_4
    refine lv_aload_n S.1 S.2.1 dX5_readCrown_9 rfl (lv_at hl 0 rfl) ?_
    refine lv_iconst (v := 0) S.1 S.2.1 dX5_readCrown_10 rfl ?_
    refine lv_bipush (v := 99) S.1 S.2.1 dX5_readCrown_11 rfl ?_
    refine R_cVi (As := [.int (0 : Int32), .int (99 : Int32)]) (rest := []) S (c_X5_readNumber (h11 := h11) (hG := hG)  hf) gX5_readCrown_X5_readNumber rfl yk_X5_readNumber ⟨⟨Nat.le_of_ble_eq_true rfl, Nat.le_of_ble_eq_true rfl⟩, rfl, rfl⟩ hK hP hD hS hX hA (h11 4 (by decide)) (cF_o E _ _ 4) rfl rfl hl.1 rfl (Nat.le_of_ble_eq_true rfl) ⟨Nat.zero_le _, Nat.zero_le _⟩ dX5_readCrown_13 (fun v_7 I_5 J_6 H locs hf hP hD hS => ?_)
    refine lv_if_ne (tgt := 21) S.1 S.2.1 dX5_readCrown_16 (by decide) (fun h_8 => ?_) (fun h_8 => ?_)
    · have hf := hf.2 h_8
      refine lv_aload_n S.1 S.2.1 dX5_readCrown_21 rfl (lv_at hl 0 rfl) ?_
      refine gfX5_0 S iX5 hK hP (h11 4 (by decide)) k1 dX5_readCrown_22 ?_
      refine gfX1_0 S iX1 hK hP (by decide) ((fun r => hG 10 r (by decide)) 0 (by decide)) k2 dX5_readCrown_25 ?_
      refine lv_aload_n S.1 S.2.1 dX5_readCrown_28 rfl (lv_at hl 0 rfl) ?_
      refine gfX5_6 S iX5 hK hP (h11 4 (by decide)) k3 dX5_readCrown_29 ?_
      refine nm_o hf (fun I_9 eI_9 hf => ?_)
      refine pfX4_7 S iX4 hK hP hD hS (by decide) ((fun r => hG 10 r (by decide)) 1 (by decide)) k4 dX5_readCrown_32 eI_9 (fun H locs hP hD hS => ?_)
      refine lv_iconst (v := 1) S.1 S.2.1 dX5_readCrown_35 rfl ?_
      exact hret hf rfl hP hD hS dX5_readCrown_36
    · have hf := hf.1 h_8
      refine lv_iconst (v := 0) S.1 S.2.1 dX5_readCrown_19 rfl ?_
      exact hret hf rfl hP hD hS dX5_readCrown_20
