abbrev rmX7_pass : Room := { frames := 6, cells := 4, slots := 24, locals := 148 }
theorem yk_X7_pass : yOk yX7_pass RX7 0 := by unfold yOk; decide +kernel
def f_X7_pass (I : MI) (J : MJ) (Q : Int32 → MI → MJ → Prop) (X : Nat → MI → MJ → Prop) : Prop :=
  (((I 0 0 11) = (0 : Int32) → f_X2_keep 0 I J (fun (I_2 : MI) (J_3 : MJ) => f_X1_passTurn 0 I_2 J_3 (fun (I_4 : MI) (J_5 : MJ) => Q (I_4 0 0 9) I_4 J_5))) ∧ (¬ (I 0 0 11) = (0 : Int32) → X 3 I J))
set_option maxRecDepth 100000 in
set_option maxHeartbeats 4000000 in
theorem c_X7_pass {l : Launch} {E : EV} {ps : List (Nat × Nat)} (hl9 : l.stackTraces = false) (h11 : ∀ r, r < 11 → (11, r) ∈ ps) (hG : ∀ k r, k < 11 → r < 16 → (k, r) ∈ ps) (hR : (eT E)[2]? = some (eG E, .object "RhymeRoofs$Game")) {I : MI} {J : MJ} {Q : Int32 → MI → MJ → Prop} {X : Nat → MI → MJ → Prop} (hf : f_X7_pass I J Q X) : YI l yX7_pass wsX7_pass rmX7_pass E ps [.ref (eA E 11 0)] I J Q X 4 24 := by
  refine Y_ofI (cc := cX7_pass) (maxL := 1) (mc := 4) (ty := .int) (by decide +kernel) rfl (Nat.le_of_ble_eq_true rfl) (fun p e s m args below meth c Qm hQm hret hlk ht S hK hX hT => ?_)
  have hA : ∀ q, s.heap.size ≤ q → AA E ps s.heap.size q := fun _ h => Or.inr h
  have k1 := S.2.2.2.2 (.fieldLink RX7 23 "RhymeRoofs" "game" "LRhymeRoofs$Game;") (by decide +kernel)
  have iX7 : ∀ w ∈ wsX70, w ∈ wsX7_pass := fun _ h => List.mem_cons_of_mem _ (List.mem_append_left _ (List.mem_append_left _ (List.mem_append_left _ (List.mem_append_left _ (List.mem_append_left _ (List.mem_append_right _ h))))))
  have k2 := S.2.2.2.2 (.fieldLink RX7 218 "RhymeRoofs$Game" "over" "Z") (by decide +kernel)
  have iX1 : ∀ w ∈ wsX10, w ∈ wsX7_pass := fun _ h => List.mem_cons_of_mem _ (List.mem_append_left _ (List.mem_append_left _ (List.mem_append_left _ (List.mem_append_left _ (List.mem_append_right _ h)))))
  have k3 := S.2.2.2.2 (.fieldLink RX7 33 "RhymeRoofs" "history" "LRhymeRoofs$History;") (by decide +kernel)
  have k4 := S.2.2.2.2 (.fieldLink RX7 157 "RhymeRoofs$Game" "turn" "I") (by decide +kernel)
  intro H locs ls hP hD hS hl
  unfold f_X7_pass at hf
  refine lv_aload_n S.1 S.2.1 dX7_pass_0 rfl (lv_at hl 0 rfl) ?_
  refine gfX7_3 S iX7 hK hP (h11 0 (by decide)) k1 dX7_pass_1 ?_
  refine gfX1_11 S iX1 hK hP (by decide) ((fun r => hG 0 r (by decide)) 0 (by decide)) k2 dX7_pass_4 ?_
  refine lv_if_eq (tgt := 20) S.1 S.2.1 dX7_pass_7 (by decide) (fun h_1 => ?_) (fun h_1 => ?_)
  · have hf := hf.1 h_1
    refine lv_aload_n S.1 S.2.1 dX7_pass_20 rfl (lv_at hl 0 rfl) ?_
    refine gfX7_5 S iX7 hK hP (h11 0 (by decide)) k3 dX7_pass_21 ?_
    refine lv_aload_n S.1 S.2.1 dX7_pass_24 rfl (lv_at hl 0 rfl) ?_
    refine gfX7_3 S iX7 hK hP (h11 0 (by decide)) k1 dX7_pass_25 ?_
    refine R_cVv (As := [.ref (eA E 0 0)]) (rest := []) S (c_X2_keep (h11 := h11) (hG := hG) (hR := hR) (hBg := (by decide)) (hMg := (fun r => hG 0 r (by decide))) hf) gX7_pass_X2_keep rfl yk_X2_keep ⟨⟨Nat.le_of_ble_eq_true rfl, Nat.le_of_ble_eq_true rfl⟩, rfl, rfl⟩ hK hP hD hS hX hA (h11 2 (by decide)) (cF_o E _ _ 2) rfl rfl hl.1 rfl (Nat.le_of_ble_eq_true rfl) ⟨Nat.le_of_ble_eq_true rfl, Nat.le_of_ble_eq_true rfl⟩ dX7_pass_28 (fun I_2 J_3 H locs hf hP hD hS => ?_)
    refine lv_aload_n S.1 S.2.1 dX7_pass_31 rfl (lv_at hl 0 rfl) ?_
    refine gfX7_3 S iX7 hK hP (h11 0 (by decide)) k1 dX7_pass_32 ?_
    refine R_cVv (As := []) (rest := []) S (c_X1_passTurn (hB := (by decide)) (hM := (fun r => hG 0 r (by decide)))  hf) gX7_pass_X1_passTurn rfl yk_X1_passTurn ⟨⟨Nat.le_of_ble_eq_true rfl, Nat.le_of_ble_eq_true rfl⟩, rfl, rfl⟩ hK hP hD hS hX hA ((fun r => hG 0 r (by decide)) 0 (by decide)) (cF_g E (by decide) _ _ 0) rfl rfl hl.1 rfl (Nat.le_of_ble_eq_true rfl) ⟨Nat.le_of_ble_eq_true rfl, Nat.le_of_ble_eq_true rfl⟩ dX7_pass_35 (fun I_4 J_5 H locs hf hP hD hS => ?_)
    refine lv_aload_n S.1 S.2.1 dX7_pass_38 rfl (lv_at hl 0 rfl) ?_
    refine gfX7_3 S iX7 hK hP (h11 0 (by decide)) k1 dX7_pass_39 ?_
    refine gfX1_9 S iX1 hK hP (by decide) ((fun r => hG 0 r (by decide)) 0 (by decide)) k4 dX7_pass_42 ?_
    exact hret hf rfl hP hD hS dX7_pass_45 (Nat.le_of_ble_eq_true rfl)
  · have hf := hf.2 h_1
    exact R_thr (names := ["java/lang/RuntimeException", "java/lang/Exception"]) (k := 0) hQm hl9 S hK hX hT hlk ht 3 (by decide) "the game is over" (by decide +kernel) (by decide +kernel) (by decide +kernel) (by decide +kernel) (by decide +kernel) (fun _ h => List.mem_cons_of_mem _ (List.mem_append_right _ h)) (by decide +kernel) (by decide +kernel) hf hP hD hS hl.1 dX7_pass_10 dX7_pass_13 dX7_pass_14 dX7_pass_16 dX7_pass_19 (Nat.le_of_ble_eq_true rfl) (Nat.le_of_ble_eq_true rfl) ⟨Nat.le_of_ble_eq_true rfl, Nat.le_of_ble_eq_true rfl⟩ (Nat.le_of_ble_eq_true rfl)
abbrev rmX7_auto : Room := { frames := 6, cells := 4, slots := 24, locals := 148 }
theorem yk_X7_auto : yOk yX7_auto RX7 1 := by unfold yOk; decide +kernel
def f_X7_auto (x1 : Int32) (I : MI) (J : MJ) (Q : Int32 → MI → MJ → Prop) (X : Nat → MI → MJ → Prop) : Prop :=
  ((x1 < (1 : Int32) → X 0 I J) ∧ (¬ x1 < (1 : Int32) → ((x1 ≤ (50 : Int32) → f_X2_keep 0 I J (fun (I_3 : MI) (J_4 : MJ) => f_X1_playOn 0 x1 I_3 J_4 (fun (v_7 : Int32) (I_5 : MI) (J_6 : MJ) => Q v_7 I_5 J_6))) ∧ (¬ x1 ≤ (50 : Int32) → X 0 I J))))
set_option maxRecDepth 100000 in
set_option maxHeartbeats 4000000 in
theorem c_X7_auto {l : Launch} {E : EV} {ps : List (Nat × Nat)} (hl9 : l.stackTraces = false) (h11 : ∀ r, r < 11 → (11, r) ∈ ps) (hG : ∀ k r, k < 11 → r < 16 → (k, r) ∈ ps) (hR : (eT E)[2]? = some (eG E, .object "RhymeRoofs$Game")) {x1 : Int32} {I : MI} {J : MJ} {Q : Int32 → MI → MJ → Prop} {X : Nat → MI → MJ → Prop} (hf : f_X7_auto x1 I J Q X) : YI l yX7_auto wsX7_auto rmX7_auto E ps [.ref (eA E 11 0), .int x1] I J Q X 4 24 := by
  refine Y_ofI (cc := cX7_auto) (maxL := 2) (mc := 4) (ty := .int) (by decide +kernel) rfl (Nat.le_of_ble_eq_true rfl) (fun p e s m args below meth c Qm hQm hret hlk ht S hK hX hT => ?_)
  have hA : ∀ q, s.heap.size ≤ q → AA E ps s.heap.size q := fun _ h => Or.inr h
  have k1 := S.2.2.2.2 (.fieldLink RX7 33 "RhymeRoofs" "history" "LRhymeRoofs$History;") (by decide +kernel)
  have iX7 : ∀ w ∈ wsX70, w ∈ wsX7_auto := fun _ h => List.mem_cons_of_mem _ (List.mem_append_left _ (List.mem_append_left _ (List.mem_append_left _ (List.mem_append_left _ (List.mem_append_left _ (List.mem_append_right _ h))))))
  have k2 := S.2.2.2.2 (.fieldLink RX7 23 "RhymeRoofs" "game" "LRhymeRoofs$Game;") (by decide +kernel)
  intro H locs ls hP hD hS hl
  unfold f_X7_auto at hf
  refine lv_iload_n S.1 S.2.1 dX7_auto_0 rfl (lv_at hl 1 rfl) ?_
  refine lv_iconst (v := 1) S.1 S.2.1 dX7_auto_1 rfl ?_
  refine lv_icmp_lt (tgt := 11) S.1 S.2.1 dX7_auto_2 (by decide) (fun h_1 => ?_) (fun h_1 => ?_)
  · have hf := hf.1 h_1
    exact R_thr (names := ["java/lang/RuntimeException", "java/lang/Exception"]) (k := 0) hQm hl9 S hK hX hT hlk ht 0 (by decide) "not a number of steps" (by decide +kernel) (by decide +kernel) (by decide +kernel) (by decide +kernel) (by decide +kernel) (fun _ h => List.mem_cons_of_mem _ (List.mem_append_right _ h)) (by decide +kernel) (by decide +kernel) hf hP hD hS hl.1 dX7_auto_11 dX7_auto_14 dX7_auto_15 dX7_auto_17 dX7_auto_20 (Nat.le_of_ble_eq_true rfl) (Nat.le_of_ble_eq_true rfl) ⟨Nat.le_of_ble_eq_true rfl, Nat.le_of_ble_eq_true rfl⟩ (Nat.le_of_ble_eq_true rfl)
  · have hf := hf.2 h_1
    refine lv_iload_n S.1 S.2.1 dX7_auto_5 rfl (lv_at hl 1 rfl) ?_
    refine lv_bipush (v := 50) S.1 S.2.1 dX7_auto_6 rfl ?_
    refine lv_icmp_le (tgt := 21) S.1 S.2.1 dX7_auto_8 (by decide) (fun h_2 => ?_) (fun h_2 => ?_)
    · have hf := hf.1 h_2
      refine lv_aload_n S.1 S.2.1 dX7_auto_21 rfl (lv_at hl 0 rfl) ?_
      refine gfX7_5 S iX7 hK hP (h11 0 (by decide)) k1 dX7_auto_22 ?_
      refine lv_aload_n S.1 S.2.1 dX7_auto_25 rfl (lv_at hl 0 rfl) ?_
      refine gfX7_3 S iX7 hK hP (h11 0 (by decide)) k2 dX7_auto_26 ?_
      refine R_cVv (As := [.ref (eA E 0 0)]) (rest := []) S (c_X2_keep (h11 := h11) (hG := hG) (hR := hR) (hBg := (by decide)) (hMg := (fun r => hG 0 r (by decide))) hf) gX7_auto_X2_keep rfl yk_X2_keep ⟨⟨Nat.le_of_ble_eq_true rfl, Nat.le_of_ble_eq_true rfl⟩, rfl, rfl⟩ hK hP hD hS hX hA (h11 2 (by decide)) (cF_o E _ _ 2) rfl rfl hl.1 rfl (Nat.le_of_ble_eq_true rfl) ⟨Nat.le_of_ble_eq_true rfl, Nat.le_of_ble_eq_true rfl⟩ dX7_auto_29 (fun I_3 J_4 H locs hf hP hD hS => ?_)
      refine lv_aload_n S.1 S.2.1 dX7_auto_32 rfl (lv_at hl 0 rfl) ?_
      refine gfX7_3 S iX7 hK hP (h11 0 (by decide)) k2 dX7_auto_33 ?_
      refine lv_iload_n S.1 S.2.1 dX7_auto_36 rfl (lv_at hl 1 rfl) ?_
      refine R_cVi (As := [.int x1]) (rest := []) S (c_X1_playOn (hB := (by decide)) (hM := (fun r => hG 0 r (by decide)))  hf) gX7_auto_X1_playOn rfl yk_X1_playOn ⟨⟨Nat.le_of_ble_eq_true rfl, Nat.le_of_ble_eq_true rfl⟩, rfl, rfl⟩ hK hP hD hS hX hA ((fun r => hG 0 r (by decide)) 0 (by decide)) (cF_g E (by decide) _ _ 0) rfl rfl hl.1 rfl (Nat.le_of_ble_eq_true rfl) ⟨Nat.le_of_ble_eq_true rfl, Nat.le_of_ble_eq_true rfl⟩ dX7_auto_37 (fun v_7 I_5 J_6 H locs hf hP hD hS => ?_)
      exact hret hf rfl hP hD hS dX7_auto_40 (Nat.le_of_ble_eq_true rfl)
    · have hf := hf.2 h_2
      exact R_thr (names := ["java/lang/RuntimeException", "java/lang/Exception"]) (k := 0) hQm hl9 S hK hX hT hlk ht 0 (by decide) "not a number of steps" (by decide +kernel) (by decide +kernel) (by decide +kernel) (by decide +kernel) (by decide +kernel) (fun _ h => List.mem_cons_of_mem _ (List.mem_append_right _ h)) (by decide +kernel) (by decide +kernel) hf hP hD hS hl.1 dX7_auto_11 dX7_auto_14 dX7_auto_15 dX7_auto_17 dX7_auto_20 (Nat.le_of_ble_eq_true rfl) (Nat.le_of_ble_eq_true rfl) ⟨Nat.le_of_ble_eq_true rfl, Nat.le_of_ble_eq_true rfl⟩ (Nat.le_of_ble_eq_true rfl)
abbrev rmX7_give : Room := { frames := 7, cells := 4, slots := 24, locals := 148 }
theorem yk_X7_give : yOk yX7_give RX7 2 := by unfold yOk; decide +kernel
def f_X7_give (x1 : Int32) (x2 : Int32) (I : MI) (J : MJ) (Q : Int32 → MI → MJ → Prop) (X : Nat → MI → MJ → Prop) : Prop :=
  f_X7_checkPlayer x1 I J (fun (I_1 : MI) (J_2 : MJ) => f_X7_startsWithWord x2 I_1 J_2 (fun (v_5 : Int32) (I_3 : MI) (J_4 : MJ) => ((v_5 = (0 : Int32) → X 0 I_3 J_4) ∧ (¬ v_5 = (0 : Int32) → (vp_in x1 4 ∧ (((8 : Int32) ≤ (I_3 0 13 x1.toNatClampNeg) → X 3 I_3 J_4) ∧ (¬ (8 : Int32) ≤ (I_3 0 13 x1.toNatClampNeg) → (((I_3 0 0 11) = (0 : Int32) → f_X2_keep 0 I_3 J_4 (fun (I_10 : MI) (J_11 : MJ) => f_X6_ofBytes 11 1 600 (0 : Int32) x2 I_10 J_11 (fun (v_14 : Int64) (I_12 : MI) (J_13 : MJ) => f_X1_addWord 0 x1 v_14 I_12 J_13 (fun (I_15 : MI) (J_16 : MJ) => ∀ I_17 : MI, I_17 = sI I_15 11 0 1 (0 : Int32) → (vp_in x1 4 ∧ Q ((I_17 0 13 x1.toNatClampNeg) - (1 : Int32)) I_17 J_16))))) ∧ (¬ (I_3 0 0 11) = (0 : Int32) → X 3 I_3 J_4))))))))) X
set_option maxRecDepth 100000 in
set_option maxHeartbeats 4000000 in
theorem c_X7_give {l : Launch} {E : EV} {ps : List (Nat × Nat)} (hl9 : l.stackTraces = false) (h11 : ∀ r, r < 11 → (11, r) ∈ ps) (hG : ∀ k r, k < 11 → r < 16 → (k, r) ∈ ps) (hR : (eT E)[2]? = some (eG E, .object "RhymeRoofs$Game")) {x1 : Int32} {x2 : Int32} {I : MI} {J : MJ} {Q : Int32 → MI → MJ → Prop} {X : Nat → MI → MJ → Prop} (hf : f_X7_give x1 x2 I J Q X) : YI l yX7_give wsX7_give rmX7_give E ps [.ref (eA E 11 0), .int x1, .int x2] I J Q X 4 24 := by
  refine Y_ofI (cc := cX7_give) (maxL := 3) (mc := 4) (ty := .int) (by decide +kernel) rfl (Nat.le_of_ble_eq_true rfl) (fun p e s m args below meth c Qm hQm hret hlk ht S hK hX hT => ?_)
  have hA : ∀ q, s.heap.size ≤ q → AA E ps s.heap.size q := fun _ h => Or.inr h
  have k1 := S.2.2.2.2 (.fieldLink RX7 23 "RhymeRoofs" "game" "LRhymeRoofs$Game;") (by decide +kernel)
  have iX7 : ∀ w ∈ wsX70, w ∈ wsX7_give := fun _ h => List.mem_cons_of_mem _ (List.mem_append_left _ (List.mem_append_left _ (List.mem_append_left _ (List.mem_append_left _ (List.mem_append_left _ (List.mem_append_left _ (List.mem_append_left _ (List.mem_append_right _ h))))))))
  have k2 := S.2.2.2.2 (.fieldLink RX7 235 "RhymeRoofs$Game" "handSize" "[I") (by decide +kernel)
  have iX1 : ∀ w ∈ wsX10, w ∈ wsX7_give := fun _ h => List.mem_cons_of_mem _ (List.mem_append_left _ (List.mem_append_left _ (List.mem_append_left _ (List.mem_append_left _ (List.mem_append_left _ (List.mem_append_left _ (List.mem_append_right _ h)))))))
  have k3 := S.2.2.2.2 (.fieldLink RX7 218 "RhymeRoofs$Game" "over" "Z") (by decide +kernel)
  have k4 := S.2.2.2.2 (.fieldLink RX7 33 "RhymeRoofs" "history" "LRhymeRoofs$History;") (by decide +kernel)
  have k5 := S.2.2.2.2 (.fieldLink RX7 9 "RhymeRoofs" "buffer" "[I") (by decide +kernel)
  have k6 := S.2.2.2.2 (.fieldLink RX7 13 "RhymeRoofs" "bufferLength" "I") (by decide +kernel)
  intro H locs ls hP hD hS hl
  unfold f_X7_give at hf
  refine lv_aload_n S.1 S.2.1 dX7_give_0 rfl (lv_at hl 0 rfl) ?_
  refine lv_iload_n S.1 S.2.1 dX7_give_1 rfl (lv_at hl 1 rfl) ?_
  refine R_xVv (As := [.int x1]) (rest := []) (k := 0) hQm S (c_X7_checkPlayer hl9 (h11 := h11) (hG := hG) (hR := hR) hf) gX7_give_X7_checkPlayer rfl yk_X7_checkPlayer ⟨rfl, rfl⟩ ⟨Nat.le_of_ble_eq_true rfl, Nat.le_of_ble_eq_true rfl⟩ hK hP hD hS hX hT hlk ht (h11 0 (by decide)) (cF_o E _ _ 0) rfl rfl hl.1 rfl (Nat.le_of_ble_eq_true rfl) ⟨Nat.le_of_ble_eq_true rfl, Nat.le_of_ble_eq_true rfl⟩ (Nat.le_of_ble_eq_true rfl) dX7_give_2 (fun I_1 J_2 H locs hf hP hD hS => ?_)
  refine lv_aload_n S.1 S.2.1 dX7_give_5 rfl (lv_at hl 0 rfl) ?_
  refine lv_iload_n S.1 S.2.1 dX7_give_6 rfl (lv_at hl 2 rfl) ?_
  refine R_cVi (As := [.int x2]) (rest := []) S (c_X7_startsWithWord (h11 := h11) (hG := hG) (hR := hR)  hf) gX7_give_X7_startsWithWord rfl yk_X7_startsWithWord ⟨⟨Nat.le_of_ble_eq_true rfl, Nat.le_of_ble_eq_true rfl⟩, rfl, rfl⟩ hK hP hD hS hX hA (h11 0 (by decide)) (cF_o E _ _ 0) rfl rfl hl.1 rfl (Nat.le_of_ble_eq_true rfl) ⟨Nat.le_of_ble_eq_true rfl, Nat.le_of_ble_eq_true rfl⟩ dX7_give_7 (fun v_5 I_3 J_4 H locs hf hP hD hS => ?_)
  refine lv_if_ne (tgt := 23) S.1 S.2.1 dX7_give_10 (by decide) (fun h_6 => ?_) (fun h_6 => ?_)
  · have hf := hf.2 h_6
    refine lv_aload_n S.1 S.2.1 dX7_give_23 rfl (lv_at hl 0 rfl) ?_
    refine gfX7_3 S iX7 hK hP (h11 0 (by decide)) k1 dX7_give_24 ?_
    refine gfX1_7 S iX1 hK hP (by decide) ((fun r => hG 0 r (by decide)) 0 (by decide)) k2 dX7_give_27 ?_
    refine lv_iload_n S.1 S.2.1 dX7_give_30 rfl (lv_at hl 1 rfl) ?_
    obtain ⟨h_7, hf⟩ := hf
    refine R_iald S.1 S.2.1 hK hP ((fun r => hG 0 r (by decide)) 13 (by decide)) (IAg13 E (by decide)) h_7 dX7_give_31 ?_
    refine lv_bipush (v := 8) S.1 S.2.1 dX7_give_32 rfl ?_
    refine lv_icmp_ge (tgt := 47) S.1 S.2.1 dX7_give_34 (by decide) (fun h_8 => ?_) (fun h_8 => ?_)
    · have hf := hf.1 h_8
      exact R_thr (names := ["java/lang/RuntimeException", "java/lang/Exception"]) (k := 0 + 1) hQm hl9 S hK hX hT hlk ht 3 (by decide) "no word can be given" (by decide +kernel) (by decide +kernel) (by decide +kernel) (by decide +kernel) (by decide +kernel) (fun _ h => List.mem_cons_of_mem _ (List.mem_append_left _ (List.mem_append_right _ h))) (by decide +kernel) (by decide +kernel) hf hP hD hS hl.1 dX7_give_47 dX7_give_50 dX7_give_51 dX7_give_53 dX7_give_56 (Nat.le_of_ble_eq_true rfl) (Nat.le_of_ble_eq_true rfl) ⟨Nat.le_of_ble_eq_true rfl, Nat.le_of_ble_eq_true rfl⟩ (Nat.le_of_ble_eq_true rfl)
    · have hf := hf.2 h_8
      refine lv_aload_n S.1 S.2.1 dX7_give_37 rfl (lv_at hl 0 rfl) ?_
      refine gfX7_3 S iX7 hK hP (h11 0 (by decide)) k1 dX7_give_38 ?_
      refine gfX1_11 S iX1 hK hP (by decide) ((fun r => hG 0 r (by decide)) 0 (by decide)) k3 dX7_give_41 ?_
      refine lv_if_eq (tgt := 57) S.1 S.2.1 dX7_give_44 (by decide) (fun h_9 => ?_) (fun h_9 => ?_)
      · have hf := hf.1 h_9
        refine lv_aload_n S.1 S.2.1 dX7_give_57 rfl (lv_at hl 0 rfl) ?_
        refine gfX7_5 S iX7 hK hP (h11 0 (by decide)) k4 dX7_give_58 ?_
        refine lv_aload_n S.1 S.2.1 dX7_give_61 rfl (lv_at hl 0 rfl) ?_
        refine gfX7_3 S iX7 hK hP (h11 0 (by decide)) k1 dX7_give_62 ?_
        refine R_cVv (As := [.ref (eA E 0 0)]) (rest := []) S (c_X2_keep (h11 := h11) (hG := hG) (hR := hR) (hBg := (by decide)) (hMg := (fun r => hG 0 r (by decide))) hf) gX7_give_X2_keep rfl yk_X2_keep ⟨⟨Nat.le_of_ble_eq_true rfl, Nat.le_of_ble_eq_true rfl⟩, rfl, rfl⟩ hK hP hD hS hX hA (h11 2 (by decide)) (cF_o E _ _ 2) rfl rfl hl.1 rfl (Nat.le_of_ble_eq_true rfl) ⟨Nat.le_of_ble_eq_true rfl, Nat.le_of_ble_eq_true rfl⟩ dX7_give_65 (fun I_10 J_11 H locs hf hP hD hS => ?_)
        refine lv_aload_n S.1 S.2.1 dX7_give_68 rfl (lv_at hl 0 rfl) ?_
        refine gfX7_3 S iX7 hK hP (h11 0 (by decide)) k1 dX7_give_69 ?_
        refine lv_iload_n S.1 S.2.1 dX7_give_72 rfl (lv_at hl 1 rfl) ?_
        refine lv_aload_n S.1 S.2.1 dX7_give_73 rfl (lv_at hl 0 rfl) ?_
        refine gfX7_0 S iX7 hK hP (h11 0 (by decide)) k5 dX7_give_74 ?_
        refine lv_iconst (v := 0) S.1 S.2.1 dX7_give_77 rfl ?_
        refine lv_iload_n S.1 S.2.1 dX7_give_78 rfl (lv_at hl 2 rfl) ?_
        refine R_cSl (As := [.ref (eA E 11 1), .int (0 : Int32), .int x2]) (rest := [.int x1, .ref (eA E 0 0)]) S (c_X6_ofBytes  (hm1 := (h11 1 (by decide))) (hc1 := (IAo1 E)) hf) gX7_give_X6_ofBytes rfl yk_X6_ofBytes ⟨⟨Nat.le_of_ble_eq_true rfl, Nat.le_of_ble_eq_true rfl⟩, rfl, rfl⟩ hK hP hD hS hX hA rfl hl.1 rfl (Nat.le_of_ble_eq_true rfl) ⟨Nat.le_of_ble_eq_true rfl, Nat.le_of_ble_eq_true rfl⟩ dX7_give_79 (fun v_14 I_12 J_13 H locs hf hP hD hS => ?_)
        refine R_cVv (As := [.int x1, .long v_14]) (rest := []) S (c_X1_addWord (hB := (by decide)) (hM := (fun r => hG 0 r (by decide)))  hf) gX7_give_X1_addWord rfl yk_X1_addWord ⟨⟨Nat.le_of_ble_eq_true rfl, Nat.le_of_ble_eq_true rfl⟩, rfl, rfl⟩ hK hP hD hS hX hA ((fun r => hG 0 r (by decide)) 0 (by decide)) (cF_g E (by decide) _ _ 0) rfl rfl hl.1 rfl (Nat.le_of_ble_eq_true rfl) ⟨Nat.le_of_ble_eq_true rfl, Nat.le_of_ble_eq_true rfl⟩ dX7_give_82 (fun I_15 J_16 H locs hf hP hD hS => ?_)
        refine lv_aload_n S.1 S.2.1 dX7_give_85 rfl (lv_at hl 0 rfl) ?_
        refine lv_iconst (v := 0) S.1 S.2.1 dX7_give_86 rfl ?_
        refine nm_o hf (fun I_17 eI_17 hf => ?_)
        refine pfX7_1 S iX7 hK hP hD hS (h11 0 (by decide)) k6 dX7_give_87 eI_17 (fun H locs hP hD hS => ?_)
        refine lv_aload_n S.1 S.2.1 dX7_give_90 rfl (lv_at hl 0 rfl) ?_
        refine gfX7_3 S iX7 hK hP (h11 0 (by decide)) k1 dX7_give_91 ?_
        refine gfX1_7 S iX1 hK hP (by decide) ((fun r => hG 0 r (by decide)) 0 (by decide)) k2 dX7_give_94 ?_
        refine lv_iload_n S.1 S.2.1 dX7_give_97 rfl (lv_at hl 1 rfl) ?_
        obtain ⟨h_18, hf⟩ := hf
        refine R_iald S.1 S.2.1 hK hP ((fun r => hG 0 r (by decide)) 13 (by decide)) (IAg13 E (by decide)) h_18 dX7_give_98 ?_
        refine lv_iconst (v := 1) S.1 S.2.1 dX7_give_99 rfl ?_
        refine lv_isub S.1 S.2.1 dX7_give_100 ?_
        exact hret hf rfl hP hD hS dX7_give_101 (Nat.le_of_ble_eq_true rfl)
      · have hf := hf.2 h_9
        exact R_thr (names := ["java/lang/RuntimeException", "java/lang/Exception"]) (k := 0 + 1) hQm hl9 S hK hX hT hlk ht 3 (by decide) "no word can be given" (by decide +kernel) (by decide +kernel) (by decide +kernel) (by decide +kernel) (by decide +kernel) (fun _ h => List.mem_cons_of_mem _ (List.mem_append_left _ (List.mem_append_right _ h))) (by decide +kernel) (by decide +kernel) hf hP hD hS hl.1 dX7_give_47 dX7_give_50 dX7_give_51 dX7_give_53 dX7_give_56 (Nat.le_of_ble_eq_true rfl) (Nat.le_of_ble_eq_true rfl) ⟨Nat.le_of_ble_eq_true rfl, Nat.le_of_ble_eq_true rfl⟩ (Nat.le_of_ble_eq_true rfl)
  · have hf := hf.1 h_6
    exact R_thr (names := ["java/lang/RuntimeException", "java/lang/Exception"]) (k := 0 + 1) hQm hl9 S hK hX hT hlk ht 0 (by decide) "the buffer does not start with such a word" (by decide +kernel) (by decide +kernel) (by decide +kernel) (by decide +kernel) (by decide +kernel) (fun _ h => List.mem_cons_of_mem _ (List.mem_append_left _ (List.mem_append_left _ (List.mem_append_right _ h)))) (by decide +kernel) (by decide +kernel) hf hP hD hS hl.1 dX7_give_13 dX7_give_16 dX7_give_17 dX7_give_19 dX7_give_22 (Nat.le_of_ble_eq_true rfl) (Nat.le_of_ble_eq_true rfl) ⟨Nat.le_of_ble_eq_true rfl, Nat.le_of_ble_eq_true rfl⟩ (Nat.le_of_ble_eq_true rfl)
