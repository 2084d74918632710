abbrev rmX7_row : Room := { frames := 7, cells := 4, slots := 24, locals := 111 }
theorem yk_X7_row : yOk yX7_row RX7 2 := by unfold yOk; decide +kernel
def f_X7_row (x1 : Int32) (x2 : Int32) (I : MI) (J : MJ) (Q : Int32 → MI → MJ → Prop) (X : Nat → MI → MJ → Prop) : Prop :=
  f_X7_checkRow x1 I J (fun (I_1 : MI) (J_2 : MJ) => ((x2 < (0 : Int32) → X 0 I_1 J_2) ∧ (¬ x2 < (0 : Int32) → ((x2 < (4 : Int32) → f_X1_rowNumber 0 x1 x2 I_1 J_2 (fun (v_7 : Int32) (I_5 : MI) (J_6 : MJ) => Q v_7 I_5 J_6)) ∧ (¬ x2 < (4 : Int32) → X 0 I_1 J_2))))) X
set_option maxRecDepth 100000 in
set_option maxHeartbeats 4000000 in
theorem c_X7_row {l : Launch} {E : EV} {ps : List (Nat × Nat)} (hl9 : l.stackTraces = false) (h11 : ∀ r, r < 11 → (11, r) ∈ ps) (hG : ∀ k r, k < 11 → r < 16 → (k, r) ∈ ps) (hR : (eT E)[2]? = some (eG E, .object "RhymeRoofs$Game")) {x1 : Int32} {x2 : Int32} {I : MI} {J : MJ} {Q : Int32 → MI → MJ → Prop} {X : Nat → MI → MJ → Prop} (hf : f_X7_row x1 x2 I J Q X) : YI l yX7_row wsX7_row rmX7_row E ps [.ref (eA E 11 0), .int x1, .int x2] I J Q X 4 24 := by
  refine Y_ofI (cc := cX7_row) (maxL := 3) (mc := 4) (ty := .int) (by decide +kernel) rfl (Nat.le_of_ble_eq_true rfl) (fun p e s m args below meth c Qm hQm hret hlk ht S hK hX hT => ?_)
  have hA : ∀ q, s.heap.size ≤ q → AA E ps s.heap.size q := fun _ h => Or.inr h
  have k1 := S.2.2.2.2 (.fieldLink RX7 23 "RhymeRoofs" "game" "LRhymeRoofs$Game;") (by decide +kernel)
  have iX7 : ∀ w ∈ wsX70, w ∈ wsX7_row := fun _ h => List.mem_cons_of_mem _ (List.mem_append_left _ (List.mem_append_left _ (List.mem_append_left _ (List.mem_append_left _ (List.mem_append_right _ h)))))
  intro H locs ls hP hD hS hl
  unfold f_X7_row at hf
  refine lv_aload_n S.1 S.2.1 dX7_row_0 rfl (lv_at hl 0 rfl) ?_
  refine lv_iload_n S.1 S.2.1 dX7_row_1 rfl (lv_at hl 1 rfl) ?_
  refine R_xVv (As := [.int x1]) (rest := []) (k := 0) hQm S (c_X7_checkRow hl9 (h11 := h11) (hG := hG) (hR := hR) hf) gX7_row_X7_checkRow rfl yk_X7_checkRow ⟨rfl, rfl⟩ ⟨Nat.le_of_ble_eq_true rfl, Nat.le_of_ble_eq_true rfl⟩ hK hP hD hS hX hT hlk ht (h11 0 (by decide)) (cF_o E _ _ 0) rfl rfl hl.1 rfl (Nat.le_of_ble_eq_true rfl) ⟨Nat.le_of_ble_eq_true rfl, Nat.le_of_ble_eq_true rfl⟩ (Nat.le_of_ble_eq_true rfl) dX7_row_2 (fun I_1 J_2 H locs hf hP hD hS => ?_)
  refine lv_iload_n S.1 S.2.1 dX7_row_5 rfl (lv_at hl 2 rfl) ?_
  refine lv_if_lt (tgt := 14) S.1 S.2.1 dX7_row_6 (by decide) (fun h_3 => ?_) (fun h_3 => ?_)
  · have hf := hf.1 h_3
    exact R_thr (names := ["java/lang/RuntimeException", "java/lang/Exception"]) (k := 0 + 1) hQm hl9 S hK hX hT hlk ht 0 (by decide) "no such number of a row" (by decide +kernel) (by decide +kernel) (by decide +kernel) (by decide +kernel) (by decide +kernel) (fun _ h => List.mem_cons_of_mem _ (List.mem_append_left _ (List.mem_append_right _ h))) (by decide +kernel) (by decide +kernel) hf hP hD hS hl.1 dX7_row_14 dX7_row_17 dX7_row_18 dX7_row_20 dX7_row_23 (Nat.le_of_ble_eq_true rfl) (Nat.le_of_ble_eq_true rfl) ⟨Nat.le_of_ble_eq_true rfl, Nat.le_of_ble_eq_true rfl⟩ (Nat.le_of_ble_eq_true rfl)
  · have hf := hf.2 h_3
    refine lv_iload_n S.1 S.2.1 dX7_row_9 rfl (lv_at hl 2 rfl) ?_
    refine lv_iconst (v := 4) S.1 S.2.1 dX7_row_10 rfl ?_
    refine lv_icmp_lt (tgt := 24) S.1 S.2.1 dX7_row_11 (by decide) (fun h_4 => ?_) (fun h_4 => ?_)
    · have hf := hf.1 h_4
      refine lv_aload_n S.1 S.2.1 dX7_row_24 rfl (lv_at hl 0 rfl) ?_
      refine gfX7_3 S iX7 hK hP (h11 0 (by decide)) k1 dX7_row_25 ?_
      refine lv_iload_n S.1 S.2.1 dX7_row_28 rfl (lv_at hl 1 rfl) ?_
      refine lv_iload_n S.1 S.2.1 dX7_row_29 rfl (lv_at hl 2 rfl) ?_
      refine R_cVi (As := [.int x1, .int x2]) (rest := []) S (c_X1_rowNumber (hB := (by decide)) (hM := (fun r => hG 0 r (by decide)))  hf) gX7_row_X1_rowNumber rfl yk_X1_rowNumber ⟨⟨Nat.le_of_ble_eq_true rfl, Nat.le_of_ble_eq_true rfl⟩, rfl, rfl⟩ hK hP hD hS hX hA ((fun r => hG 0 r (by decide)) 0 (by decide)) (cF_g E (by decide) _ _ 0) rfl rfl hl.1 rfl (Nat.le_of_ble_eq_true rfl) ⟨Nat.le_of_ble_eq_true rfl, Nat.le_of_ble_eq_true rfl⟩ dX7_row_30 (fun v_7 I_5 J_6 H locs hf hP hD hS => ?_)
      exact hret hf rfl hP hD hS dX7_row_33 (Nat.le_of_ble_eq_true rfl)
    · have hf := hf.2 h_4
      exact R_thr (names := ["java/lang/RuntimeException", "java/lang/Exception"]) (k := 0 + 1) hQm hl9 S hK hX hT hlk ht 0 (by decide) "no such number of a row" (by decide +kernel) (by decide +kernel) (by decide +kernel) (by decide +kernel) (by decide +kernel) (fun _ h => List.mem_cons_of_mem _ (List.mem_append_left _ (List.mem_append_right _ h))) (by decide +kernel) (by decide +kernel) hf hP hD hS hl.1 dX7_row_14 dX7_row_17 dX7_row_18 dX7_row_20 dX7_row_23 (Nat.le_of_ble_eq_true rfl) (Nat.le_of_ble_eq_true rfl) ⟨Nat.le_of_ble_eq_true rfl, Nat.le_of_ble_eq_true rfl⟩ (Nat.le_of_ble_eq_true rfl)
abbrev rmX7_player : Room := { frames := 7, cells := 4, slots := 24, locals := 111 }
theorem yk_X7_player : yOk yX7_player RX7 2 := by unfold yOk; decide +kernel
def f_X7_player (x1 : Int32) (x2 : Int32) (I : MI) (J : MJ) (Q : Int32 → MI → MJ → Prop) (X : Nat → MI → MJ → Prop) : Prop :=
  f_X7_checkPlayer x1 I J (fun (I_1 : MI) (J_2 : MJ) => ((x2 < (0 : Int32) → X 0 I_1 J_2) ∧ (¬ x2 < (0 : Int32) → ((x2 < (4 : Int32) → f_X1_playerNumber 0 x1 x2 I_1 J_2 (fun (v_7 : Int32) (I_5 : MI) (J_6 : MJ) => Q v_7 I_5 J_6)) ∧ (¬ x2 < (4 : Int32) → X 0 I_1 J_2))))) X
set_option maxRecDepth 100000 in
set_option maxHeartbeats 4000000 in
theorem c_X7_player {l : Launch} {E : EV} {ps : List (Nat × Nat)} (hl9 : l.stackTraces = false) (h11 : ∀ r, r < 11 → (11, r) ∈ ps) (hG : ∀ k r, k < 11 → r < 16 → (k, r) ∈ ps) (hR : (eT E)[2]? = some (eG E, .object "RhymeRoofs$Game")) {x1 : Int32} {x2 : Int32} {I : MI} {J : MJ} {Q : Int32 → MI → MJ → Prop} {X : Nat → MI → MJ → Prop} (hf : f_X7_player x1 x2 I J Q X) : YI l yX7_player wsX7_player rmX7_player E ps [.ref (eA E 11 0), .int x1, .int x2] I J Q X 4 24 := by
  refine Y_ofI (cc := cX7_player) (maxL := 3) (mc := 4) (ty := .int) (by decide +kernel) rfl (Nat.le_of_ble_eq_true rfl) (fun p e s m args below meth c Qm hQm hret hlk ht S hK hX hT => ?_)
  have hA : ∀ q, s.heap.size ≤ q → AA E ps s.heap.size q := fun _ h => Or.inr h
  have k1 := S.2.2.2.2 (.fieldLink RX7 23 "RhymeRoofs" "game" "LRhymeRoofs$Game;") (by decide +kernel)
  have iX7 : ∀ w ∈ wsX70, w ∈ wsX7_player := fun _ h => List.mem_cons_of_mem _ (List.mem_append_left _ (List.mem_append_left _ (List.mem_append_left _ (List.mem_append_left _ (List.mem_append_right _ h)))))
  intro H locs ls hP hD hS hl
  unfold f_X7_player at hf
  refine lv_aload_n S.1 S.2.1 dX7_player_0 rfl (lv_at hl 0 rfl) ?_
  refine lv_iload_n S.1 S.2.1 dX7_player_1 rfl (lv_at hl 1 rfl) ?_
  refine R_xVv (As := [.int x1]) (rest := []) (k := 0) hQm S (c_X7_checkPlayer hl9 (h11 := h11) (hG := hG) (hR := hR) hf) gX7_player_X7_checkPlayer rfl yk_X7_checkPlayer ⟨rfl, rfl⟩ ⟨Nat.le_of_ble_eq_true rfl, Nat.le_of_ble_eq_true rfl⟩ hK hP hD hS hX hT hlk ht (h11 0 (by decide)) (cF_o E _ _ 0) rfl rfl hl.1 rfl (Nat.le_of_ble_eq_true rfl) ⟨Nat.le_of_ble_eq_true rfl, Nat.le_of_ble_eq_true rfl⟩ (Nat.le_of_ble_eq_true rfl) dX7_player_2 (fun I_1 J_2 H locs hf hP hD hS => ?_)
  refine lv_iload_n S.1 S.2.1 dX7_player_5 rfl (lv_at hl 2 rfl) ?_
  refine lv_if_lt (tgt := 14) S.1 S.2.1 dX7_player_6 (by decide) (fun h_3 => ?_) (fun h_3 => ?_)
  · have hf := hf.1 h_3
    exact R_thr (names := ["java/lang/RuntimeException", "java/lang/Exception"]) (k := 0 + 1) hQm hl9 S hK hX hT hlk ht 0 (by decide) "no such number of a player" (by decide +kernel) (by decide +kernel) (by decide +kernel) (by decide +kernel) (by decide +kernel) (fun _ h => List.mem_cons_of_mem _ (List.mem_append_left _ (List.mem_append_right _ h))) (by decide +kernel) (by decide +kernel) hf hP hD hS hl.1 dX7_player_14 dX7_player_17 dX7_player_18 dX7_player_20 dX7_player_23 (Nat.le_of_ble_eq_true rfl) (Nat.le_of_ble_eq_true rfl) ⟨Nat.le_of_ble_eq_true rfl, Nat.le_of_ble_eq_true rfl⟩ (Nat.le_of_ble_eq_true rfl)
  · have hf := hf.2 h_3
    refine lv_iload_n S.1 S.2.1 dX7_player_9 rfl (lv_at hl 2 rfl) ?_
    refine lv_iconst (v := 4) S.1 S.2.1 dX7_player_10 rfl ?_
    refine lv_icmp_lt (tgt := 24) S.1 S.2.1 dX7_player_11 (by decide) (fun h_4 => ?_) (fun h_4 => ?_)
    · have hf := hf.1 h_4
      refine lv_aload_n S.1 S.2.1 dX7_player_24 rfl (lv_at hl 0 rfl) ?_
      refine gfX7_3 S iX7 hK hP (h11 0 (by decide)) k1 dX7_player_25 ?_
      refine lv_iload_n S.1 S.2.1 dX7_player_28 rfl (lv_at hl 1 rfl) ?_
      refine lv_iload_n S.1 S.2.1 dX7_player_29 rfl (lv_at hl 2 rfl) ?_
      refine R_cVi (As := [.int x1, .int x2]) (rest := []) S (c_X1_playerNumber (hB := (by decide)) (hM := (fun r => hG 0 r (by decide)))  hf) gX7_player_X1_playerNumber rfl yk_X1_playerNumber ⟨⟨Nat.le_of_ble_eq_true rfl, Nat.le_of_ble_eq_true rfl⟩, rfl, rfl⟩ hK hP hD hS hX hA ((fun r => hG 0 r (by decide)) 0 (by decide)) (cF_g E (by decide) _ _ 0) rfl rfl hl.1 rfl (Nat.le_of_ble_eq_true rfl) ⟨Nat.le_of_ble_eq_true rfl, Nat.le_of_ble_eq_true rfl⟩ dX7_player_30 (fun v_7 I_5 J_6 H locs hf hP hD hS => ?_)
      exact hret hf rfl hP hD hS dX7_player_33 (Nat.le_of_ble_eq_true rfl)
    · have hf := hf.2 h_4
      exact R_thr (names := ["java/lang/RuntimeException", "java/lang/Exception"]) (k := 0 + 1) hQm hl9 S hK hX hT hlk ht 0 (by decide) "no such number of a player" (by decide +kernel) (by decide +kernel) (by decide +kernel) (by decide +kernel) (by decide +kernel) (fun _ h => List.mem_cons_of_mem _ (List.mem_append_left _ (List.mem_append_right _ h))) (by decide +kernel) (by decide +kernel) hf hP hD hS hl.1 dX7_player_14 dX7_player_17 dX7_player_18 dX7_player_20 dX7_player_23 (Nat.le_of_ble_eq_true rfl) (Nat.le_of_ble_eq_true rfl) ⟨Nat.le_of_ble_eq_true rfl, Nat.le_of_ble_eq_true rfl⟩ (Nat.le_of_ble_eq_true rfl)
abbrev rmX7_alike : Room := { frames := 6, cells := 4, slots := 24, locals := 90 }
theorem yk_X7_alike : yOk yX7_alike RX7 2 := by unfold yOk; decide +kernel
def f_X7_alike (x1 : Int32) (x2 : Int32) (I : MI) (J : MJ) (Q : Int32 → MI → MJ → Prop) (X : Nat → MI → MJ → Prop) : Prop :=
  ((x1 < (0 : Int32) → X 0 I J) ∧ (¬ x1 < (0 : Int32) → (((26 : Int32) ≤ x1 → X 0 I J) ∧ (¬ (26 : Int32) ≤ x1 → ((x2 < (0 : Int32) → X 0 I J) ∧ (¬ x2 < (0 : Int32) → ((x2 < (26 : Int32) → (vp_in (x1 + (1 : Int32)) 32 ∧ (vp_in (x2 + (1 : Int32)) 32 ∧ (((I 0 4 (x1 + (1 : Int32)).toNatClampNeg) = (I 0 4 (x2 + (1 : Int32)).toNatClampNeg) → Q (1 : Int32) I J) ∧ (¬ (I 0 4 (x1 + (1 : Int32)).toNatClampNeg) = (I 0 4 (x2 + (1 : Int32)).toNatClampNeg) → Q (0 : Int32) I J))))) ∧ (¬ x2 < (26 : Int32) → X 0 I J))))))))
set_option maxRecDepth 100000 in
set_option maxHeartbeats 4000000 in
theorem c_X7_alike {l : Launch} {E : EV} {ps : List (Nat × Nat)} (hl9 : l.stackTraces = false) (h11 : ∀ r, r < 11 → (11, r) ∈ ps) (hG : ∀ k r, k < 11 → r < 16 → (k, r) ∈ ps) (hR : (eT E)[2]? = some (eG E, .object "RhymeRoofs$Game")) {x1 : Int32} {x2 : Int32} {I : MI} {J : MJ} {Q : Int32 → MI → MJ → Prop} {X : Nat → MI → MJ → Prop} (hf : f_X7_alike x1 x2 I J Q X) : YI l yX7_alike wsX7_alike rmX7_alike E ps [.ref (eA E 11 0), .int x1, .int x2] I J Q X 4 24 := by
  refine Y_ofI (cc := cX7_alike) (maxL := 3) (mc := 4) (ty := .boolean) (by decide +kernel) rfl (Nat.le_of_ble_eq_true rfl) (fun p e s m args below meth c Qm hQm hret hlk ht S hK hX hT => ?_)
  have hA : ∀ q, s.heap.size ≤ q → AA E ps s.heap.size q := fun _ h => Or.inr h
  have k1 := S.2.2.2.2 (.fieldLink RX7 23 "RhymeRoofs" "game" "LRhymeRoofs$Game;") (by decide +kernel)
  have iX7 : ∀ w ∈ wsX70, w ∈ wsX7_alike := fun _ h => List.mem_cons_of_mem _ (List.mem_append_left _ (List.mem_append_left _ (List.mem_append_left _ (List.mem_append_right _ h))))
  have k2 := S.2.2.2.2 (.fieldLink RX7 96 "RhymeRoofs$Game" "rules" "LRhymeRoofs$Rules;") (by decide +kernel)
  have iX1 : ∀ w ∈ wsX10, w ∈ wsX7_alike := fun _ h => List.mem_cons_of_mem _ (List.mem_append_left _ (List.mem_append_left _ (List.mem_append_right _ h)))
  have k3 := S.2.2.2.2 (.fieldLink RX7 143 "RhymeRoofs$Rules" "groups" "[I") (by decide +kernel)
  have iX4 : ∀ w ∈ wsX40, w ∈ wsX7_alike := fun _ h => List.mem_cons_of_mem _ (List.mem_append_left _ (List.mem_append_right _ h))
  intro H locs ls hP hD hS hl
  unfold f_X7_alike at hf
  refine lv_iload_n S.1 S.2.1 dX7_alike_0 rfl (lv_at hl 1 rfl) ?_
  refine lv_if_lt (tgt := 20) S.1 S.2.1 dX7_alike_1 (by decide) (fun h_1 => ?_) (fun h_1 => ?_)
  · have hf := hf.1 h_1
    exact R_thr (names := ["java/lang/RuntimeException", "java/lang/Exception"]) (k := 0) hQm hl9 S hK hX hT hlk ht 0 (by decide) "not a letter" (by decide +kernel) (by decide +kernel) (by decide +kernel) (by decide +kernel) (by decide +kernel) (fun _ h => List.mem_cons_of_mem _ (List.mem_append_right _ h)) (by decide +kernel) (by decide +kernel) hf hP hD hS hl.1 dX7_alike_20 dX7_alike_23 dX7_alike_24 dX7_alike_26 dX7_alike_29 (Nat.le_of_ble_eq_true rfl) (Nat.le_of_ble_eq_true rfl) ⟨Nat.le_of_ble_eq_true rfl, Nat.le_of_ble_eq_true rfl⟩ (Nat.le_of_ble_eq_true rfl)
  · have hf := hf.2 h_1
    refine lv_iload_n S.1 S.2.1 dX7_alike_4 rfl (lv_at hl 1 rfl) ?_
    refine lv_bipush (v := 26) S.1 S.2.1 dX7_alike_5 rfl ?_
    refine lv_icmp_ge (tgt := 20) S.1 S.2.1 dX7_alike_7 (by decide) (fun h_2 => ?_) (fun h_2 => ?_)
    · have hf := hf.1 h_2
      exact R_thr (names := ["java/lang/RuntimeException", "java/lang/Exception"]) (k := 0) hQm hl9 S hK hX hT hlk ht 0 (by decide) "not a letter" (by decide +kernel) (by decide +kernel) (by decide +kernel) (by decide +kernel) (by decide +kernel) (fun _ h => List.mem_cons_of_mem _ (List.mem_append_right _ h)) (by decide +kernel) (by decide +kernel) hf hP hD hS hl.1 dX7_alike_20 dX7_alike_23 dX7_alike_24 dX7_alike_26 dX7_alike_29 (Nat.le_of_ble_eq_true rfl) (Nat.le_of_ble_eq_true rfl) ⟨Nat.le_of_ble_eq_true rfl, Nat.le_of_ble_eq_true rfl⟩ (Nat.le_of_ble_eq_true rfl)
    · have hf := hf.2 h_2
      refine lv_iload_n S.1 S.2.1 dX7_alike_10 rfl (lv_at hl 2 rfl) ?_
      refine lv_if_lt (tgt := 20) S.1 S.2.1 dX7_alike_11 (by decide) (fun h_3 => ?_) (fun h_3 => ?_)
      · have hf := hf.1 h_3
        exact R_thr (names := ["java/lang/RuntimeException", "java/lang/Exception"]) (k := 0) hQm hl9 S hK hX hT hlk ht 0 (by decide) "not a letter" (by decide +kernel) (by decide +kernel) (by decide +kernel) (by decide +kernel) (by decide +kernel) (fun _ h => List.mem_cons_of_mem _ (List.mem_append_right _ h)) (by decide +kernel) (by decide +kernel) hf hP hD hS hl.1 dX7_alike_20 dX7_alike_23 dX7_alike_24 dX7_alike_26 dX7_alike_29 (Nat.le_of_ble_eq_true rfl) (Nat.le_of_ble_eq_true rfl) ⟨Nat.le_of_ble_eq_true rfl, Nat.le_of_ble_eq_true rfl⟩ (Nat.le_of_ble_eq_true rfl)
      · have hf := hf.2 h_3
        refine lv_iload_n S.1 S.2.1 dX7_alike_14 rfl (lv_at hl 2 rfl) ?_
        refine lv_bipush (v := 26) S.1 S.2.1 dX7_alike_15 rfl ?_
        refine lv_icmp_lt (tgt := 30) S.1 S.2.1 dX7_alike_17 (by decide) (fun h_4 => ?_) (fun h_4 => ?_)
        · have hf := hf.1 h_4
          refine lv_aload_n S.1 S.2.1 dX7_alike_30 rfl (lv_at hl 0 rfl) ?_
          refine gfX7_3 S iX7 hK hP (h11 0 (by decide)) k1 dX7_alike_31 ?_
          refine gfX1_0 S iX1 hK hP (by decide) ((fun r => hG 0 r (by decide)) 0 (by decide)) k2 dX7_alike_34 ?_
          refine gfX4_1 S iX4 hK hP (by decide) ((fun r => hG 0 r (by decide)) 1 (by decide)) k3 dX7_alike_37 ?_
          refine lv_iload_n S.1 S.2.1 dX7_alike_40 rfl (lv_at hl 1 rfl) ?_
          refine lv_iconst (v := 1) S.1 S.2.1 dX7_alike_41 rfl ?_
          refine lv_iadd S.1 S.2.1 dX7_alike_42 ?_
          obtain ⟨h_5, hf⟩ := hf
          refine R_iald S.1 S.2.1 hK hP ((fun r => hG 0 r (by decide)) 4 (by decide)) (IAg4 E (by decide)) h_5 dX7_alike_43 ?_
          refine lv_aload_n S.1 S.2.1 dX7_alike_44 rfl (lv_at hl 0 rfl) ?_
          refine gfX7_3 S iX7 hK hP (h11 0 (by decide)) k1 dX7_alike_45 ?_
          refine gfX1_0 S iX1 hK hP (by decide) ((fun r => hG 0 r (by decide)) 0 (by decide)) k2 dX7_alike_48 ?_
          refine gfX4_1 S iX4 hK hP (by decide) ((fun r => hG 0 r (by decide)) 1 (by decide)) k3 dX7_alike_51 ?_
          refine lv_iload_n S.1 S.2.1 dX7_alike_54 rfl (lv_at hl 2 rfl) ?_
          refine lv_iconst (v := 1) S.1 S.2.1 dX7_alike_55 rfl ?_
          refine lv_iadd S.1 S.2.1 dX7_alike_56 ?_
          obtain ⟨h_6, hf⟩ := hf
          refine R_iald S.1 S.2.1 hK hP ((fun r => hG 0 r (by decide)) 4 (by decide)) (IAg4 E (by decide)) h_6 dX7_alike_57 ?_
          refine lv_icmp_ne (tgt := 65) S.1 S.2.1 dX7_alike_58 (by decide) (fun h_7 => ?_) (fun h_7 => ?_)
          · have hf := hf.2 h_7
            refine lv_iconst (v := 0) S.1 S.2.1 dX7_alike_65 rfl ?_
            exact hret hf rfl hP hD hS dX7_alike_66 (Nat.le_of_ble_eq_true rfl)
          · have hf := hf.1 h_7
            refine lv_iconst (v := 1) S.1 S.2.1 dX7_alike_61 rfl ?_
            refine lv_goto (tgt := 66) S.1 S.2.1 dX7_alike_62 (by decide) ?_
            exact hret hf rfl hP hD hS dX7_alike_66 (Nat.le_of_ble_eq_true rfl)
        · have hf := hf.2 h_4
          exact R_thr (names := ["java/lang/RuntimeException", "java/lang/Exception"]) (k := 0) hQm hl9 S hK hX hT hlk ht 0 (by decide) "not a letter" (by decide +kernel) (by decide +kernel) (by decide +kernel) (by decide +kernel) (by decide +kernel) (fun _ h => List.mem_cons_of_mem _ (List.mem_append_right _ h)) (by decide +kernel) (by decide +kernel) hf hP hD hS hl.1 dX7_alike_20 dX7_alike_23 dX7_alike_24 dX7_alike_26 dX7_alike_29 (Nat.le_of_ble_eq_true rfl) (Nat.le_of_ble_eq_true rfl) ⟨Nat.le_of_ble_eq_true rfl, Nat.le_of_ble_eq_true rfl⟩ (Nat.le_of_ble_eq_true rfl)
abbrev rmX7_rhyme : Room := { frames := 7, cells := 4, slots := 24, locals := 112 }
theorem yk_X7_rhyme : yOk yX7_rhyme RX7 3 := by unfold yOk; decide +kernel
def f_X7_rhyme (x1 : Int32) (x2 : Int32) (x3 : Int32) (I : MI) (J : MJ) (Q : Int32 → MI → MJ → Prop) (X : Nat → MI → MJ → Prop) : Prop :=
  f_X7_checkPlayer x1 I J (fun (I_1 : MI) (J_2 : MJ) => f_X7_checkPlace x1 x2 I_1 J_2 (fun (I_3 : MI) (J_4 : MJ) => f_X7_checkRow x3 I_3 J_4 (fun (I_5 : MI) (J_6 : MJ) => (vp_in x3 6 ∧ (((I_5 0 9 x3.toNatClampNeg) = (0 : Int32) → Q (-1 : Int32) I_5 J_6) ∧ (¬ (I_5 0 9 x3.toNatClampNeg) = (0 : Int32) → f_X1_wordOf 0 x1 x2 I_5 J_6 (fun (v_11 : Int64) (I_9 : MI) (J_10 : MJ) => (vp_in x3 6 ∧ f_X4_rhymeOf 0 v_11 (J_10 0 10 x3.toNatClampNeg) I_9 J_10 (fun (v_15 : Int32) (I_13 : MI) (J_14 : MJ) => Q v_15 I_13 J_14))))))) X) X) X
set_option maxRecDepth 100000 in
set_option maxHeartbeats 4000000 in
theorem c_X7_rhyme {l : Launch} {E : EV} {ps : List (Nat × Nat)} (hl9 : l.stackTraces = false) (h11 : ∀ r, r < 11 → (11, r) ∈ ps) (hG : ∀ k r, k < 11 → r < 16 → (k, r) ∈ ps) (hR : (eT E)[2]? = some (eG E, .object "RhymeRoofs$Game")) {x1 : Int32} {x2 : Int32} {x3 : Int32} {I : MI} {J : MJ} {Q : Int32 → MI → MJ → Prop} {X : Nat → MI → MJ → Prop} (hf : f_X7_rhyme x1 x2 x3 I J Q X) : YI l yX7_rhyme wsX7_rhyme rmX7_rhyme E ps [.ref (eA E 11 0), .int x1, .int x2, .int x3] I J Q X 4 24 := by
  refine Y_ofI (cc := cX7_rhyme) (maxL := 4) (mc := 4) (ty := .int) (by decide +kernel) rfl (Nat.le_of_ble_eq_true rfl) (fun p e s m args below meth c Qm hQm hret hlk ht S hK hX hT => ?_)
  have hA : ∀ q, s.heap.size ≤ q → AA E ps s.heap.size q := fun _ h => Or.inr h
  have k1 := S.2.2.2.2 (.fieldLink RX7 23 "RhymeRoofs" "game" "LRhymeRoofs$Game;") (by decide +kernel)
  have iX7 : ∀ w ∈ wsX70, w ∈ wsX7_rhyme := fun _ h => List.mem_cons_of_mem _ (List.mem_append_left _ (List.mem_append_left _ (List.mem_append_left _ (List.mem_append_right _ h))))
  have k2 := S.2.2.2.2 (.fieldLink RX7 146 "RhymeRoofs$Game" "wordsOn" "[I") (by decide +kernel)
  have iX1 : ∀ w ∈ wsX10, w ∈ wsX7_rhyme := fun _ h => List.mem_cons_of_mem _ (List.mem_append_left _ (List.mem_append_left _ (List.mem_append_right _ h)))
  have k3 := S.2.2.2.2 (.fieldLink RX7 96 "RhymeRoofs$Game" "rules" "LRhymeRoofs$Rules;") (by decide +kernel)
  have k4 := S.2.2.2.2 (.fieldLink RX7 149 "RhymeRoofs$Game" "lastOn" "[J") (by decide +kernel)
  intro H locs ls hP hD hS hl
  unfold f_X7_rhyme at hf
  refine lv_aload_n S.1 S.2.1 dX7_rhyme_0 rfl (lv_at hl 0 rfl) ?_
  refine lv_iload_n S.1 S.2.1 dX7_rhyme_1 rfl (lv_at hl 1 rfl) ?_
  refine R_xVv (As := [.int x1]) (rest := []) (k := 0) hQm S (c_X7_checkPlayer hl9 (h11 := h11) (hG := hG) (hR := hR) hf) gX7_rhyme_X7_checkPlayer rfl yk_X7_checkPlayer ⟨rfl, rfl⟩ ⟨Nat.le_of_ble_eq_true rfl, Nat.le_of_ble_eq_true rfl⟩ hK hP hD hS hX hT hlk ht (h11 0 (by decide)) (cF_o E _ _ 0) rfl rfl hl.1 rfl (Nat.le_of_ble_eq_true rfl) ⟨Nat.le_of_ble_eq_true rfl, Nat.le_of_ble_eq_true rfl⟩ (Nat.le_of_ble_eq_true rfl) dX7_rhyme_2 (fun I_1 J_2 H locs hf hP hD hS => ?_)
  refine lv_aload_n S.1 S.2.1 dX7_rhyme_5 rfl (lv_at hl 0 rfl) ?_
  refine lv_iload_n S.1 S.2.1 dX7_rhyme_6 rfl (lv_at hl 1 rfl) ?_
  refine lv_iload_n S.1 S.2.1 dX7_rhyme_7 rfl (lv_at hl 2 rfl) ?_
  refine R_xVv (As := [.int x1, .int x2]) (rest := []) (k := 0 + 1) hQm S (c_X7_checkPlace hl9 (h11 := h11) (hG := hG) (hR := hR) hf) gX7_rhyme_X7_checkPlace rfl yk_X7_checkPlace ⟨rfl, rfl⟩ ⟨Nat.le_of_ble_eq_true rfl, Nat.le_of_ble_eq_true rfl⟩ hK hP hD hS hX hT hlk ht (h11 0 (by decide)) (cF_o E _ _ 0) rfl rfl hl.1 rfl (Nat.le_of_ble_eq_true rfl) ⟨Nat.le_of_ble_eq_true rfl, Nat.le_of_ble_eq_true rfl⟩ (Nat.le_of_ble_eq_true rfl) dX7_rhyme_8 (fun I_3 J_4 H locs hf hP hD hS => ?_)
  refine lv_aload_n S.1 S.2.1 dX7_rhyme_11 rfl (lv_at hl 0 rfl) ?_
  refine lv_iload_n S.1 S.2.1 dX7_rhyme_12 rfl (lv_at hl 3 rfl) ?_
  refine R_xVv (As := [.int x3]) (rest := []) (k := 0 + 1 + 1) hQm S (c_X7_checkRow hl9 (h11 := h11) (hG := hG) (hR := hR) hf) gX7_rhyme_X7_checkRow rfl yk_X7_checkRow ⟨rfl, rfl⟩ ⟨Nat.le_of_ble_eq_true rfl, Nat.le_of_ble_eq_true rfl⟩ hK hP hD hS hX hT hlk ht (h11 0 (by decide)) (cF_o E _ _ 0) rfl rfl hl.1 rfl (Nat.le_of_ble_eq_true rfl) ⟨Nat.le_of_ble_eq_true rfl, Nat.le_of_ble_eq_true rfl⟩ (Nat.le_of_ble_eq_true rfl) dX7_rhyme_13 (fun I_5 J_6 H locs hf hP hD hS => ?_)
  refine lv_aload_n S.1 S.2.1 dX7_rhyme_16 rfl (lv_at hl 0 rfl) ?_
  refine gfX7_3 S iX7 hK hP (h11 0 (by decide)) k1 dX7_rhyme_17 ?_
  refine gfX1_3 S iX1 hK hP (by decide) ((fun r => hG 0 r (by decide)) 0 (by decide)) k2 dX7_rhyme_20 ?_
  refine lv_iload_n S.1 S.2.1 dX7_rhyme_23 rfl (lv_at hl 3 rfl) ?_
  obtain ⟨h_7, hf⟩ := hf
  refine R_iald S.1 S.2.1 hK hP ((fun r => hG 0 r (by decide)) 9 (by decide)) (IAg9 E (by decide)) h_7 dX7_rhyme_24 ?_
  refine lv_if_ne (tgt := 30) S.1 S.2.1 dX7_rhyme_25 (by decide) (fun h_8 => ?_) (fun h_8 => ?_)
  · have hf := hf.2 h_8
    refine lv_aload_n S.1 S.2.1 dX7_rhyme_30 rfl (lv_at hl 0 rfl) ?_
    refine gfX7_3 S iX7 hK hP (h11 0 (by decide)) k1 dX7_rhyme_31 ?_
    refine gfX1_0 S iX1 hK hP (by decide) ((fun r => hG 0 r (by decide)) 0 (by decide)) k3 dX7_rhyme_34 ?_
    refine lv_aload_n S.1 S.2.1 dX7_rhyme_37 rfl (lv_at hl 0 rfl) ?_
    refine gfX7_3 S iX7 hK hP (h11 0 (by decide)) k1 dX7_rhyme_38 ?_
    refine lv_iload_n S.1 S.2.1 dX7_rhyme_41 rfl (lv_at hl 1 rfl) ?_
    refine lv_iload_n S.1 S.2.1 dX7_rhyme_42 rfl (lv_at hl 2 rfl) ?_
    refine R_cVl (As := [.int x1, .int x2]) (rest := [.ref (eA E 0 1)]) S (c_X1_wordOf (hB := (by decide)) (hM := (fun r => hG 0 r (by decide)))  hf) gX7_rhyme_X1_wordOf rfl yk_X1_wordOf ⟨⟨Nat.le_of_ble_eq_true rfl, Nat.le_of_ble_eq_true rfl⟩, rfl, rfl⟩ hK hP hD hS hX hA ((fun r => hG 0 r (by decide)) 0 (by decide)) (cF_g E (by decide) _ _ 0) rfl rfl hl.1 rfl (Nat.le_of_ble_eq_true rfl) ⟨Nat.le_of_ble_eq_true rfl, Nat.le_of_ble_eq_true rfl⟩ dX7_rhyme_43 (fun v_11 I_9 J_10 H locs hf hP hD hS => ?_)
    refine lv_aload_n S.1 S.2.1 dX7_rhyme_46 rfl (lv_at hl 0 rfl) ?_
    refine gfX7_3 S iX7 hK hP (h11 0 (by decide)) k1 dX7_rhyme_47 ?_
    refine gfX1_4 S iX1 hK hP (by decide) ((fun r => hG 0 r (by decide)) 0 (by decide)) k4 dX7_rhyme_50 ?_
    refine lv_iload_n S.1 S.2.1 dX7_rhyme_53 rfl (lv_at hl 3 rfl) ?_
    obtain ⟨h_12, hf⟩ := hf
    refine R_lald S.1 S.2.1 hK hP ((fun r => hG 0 r (by decide)) 10 (by decide)) (LAg10 E (by decide)) h_12 dX7_rhyme_54 ?_
    refine R_cVi (As := [.long v_11, .long (J_10 0 10 x3.toNatClampNeg)]) (rest := []) S (c_X4_rhymeOf (hB := (by decide)) (hM := (fun r => hG 0 r (by decide)))  hf) gX7_rhyme_X4_rhymeOf rfl yk_X4_rhymeOf ⟨⟨Nat.le_of_ble_eq_true rfl, Nat.le_of_ble_eq_true rfl⟩, rfl, rfl⟩ hK hP hD hS hX hA ((fun r => hG 0 r (by decide)) 1 (by decide)) (cF_g E (by decide) _ _ 1) rfl rfl hl.1 rfl (Nat.le_of_ble_eq_true rfl) ⟨Nat.le_of_ble_eq_true rfl, Nat.le_of_ble_eq_true rfl⟩ dX7_rhyme_55 (fun v_15 I_13 J_14 H locs hf hP hD hS => ?_)
    exact hret hf rfl hP hD hS dX7_rhyme_58 (Nat.le_of_ble_eq_true rfl)
  · have hf := hf.1 h_8
    refine lv_iconst (v := (-1)) S.1 S.2.1 dX7_rhyme_28 rfl ?_
    exact hret hf rfl hP hD hS dX7_rhyme_29 (Nat.le_of_ble_eq_true rfl)
abbrev rmX7_why : Room := { frames := 7, cells := 4, slots := 24, locals := 112 }
theorem yk_X7_why : yOk yX7_why RX7 2 := by unfold yOk; decide +kernel
def f_X7_why (x1 : Int32) (x2 : Int32) (I : MI) (J : MJ) (Q : Int32 → MI → MJ → Prop) (X : Nat → MI → MJ → Prop) : Prop :=
  f_X7_checkPlace (I 0 0 9) x1 I J (fun (I_1 : MI) (J_2 : MJ) => f_X7_checkRow x2 I_1 J_2 (fun (I_3 : MI) (J_4 : MJ) => f_X1_obstacleNow 0 x1 x2 I_3 J_4 (fun (v_7 : Int32) (I_5 : MI) (J_6 : MJ) => Q v_7 I_5 J_6)) X) X
set_option maxRecDepth 100000 in
set_option maxHeartbeats 4000000 in
theorem c_X7_why {l : Launch} {E : EV} {ps : List (Nat × Nat)} (hl9 : l.stackTraces = false) (h11 : ∀ r, r < 11 → (11, r) ∈ ps) (hG : ∀ k r, k < 11 → r < 16 → (k, r) ∈ ps) (hR : (eT E)[2]? = some (eG E, .object "RhymeRoofs$Game")) {x1 : Int32} {x2 : Int32} {I : MI} {J : MJ} {Q : Int32 → MI → MJ → Prop} {X : Nat → MI → MJ → Prop} (hf : f_X7_why x1 x2 I J Q X) : YI l yX7_why wsX7_why rmX7_why E ps [.ref (eA E 11 0), .int x1, .int x2] I J Q X 4 24 := by
  refine Y_ofI (cc := cX7_why) (maxL := 3) (mc := 4) (ty := .int) (by decide +kernel) rfl (Nat.le_of_ble_eq_true rfl) (fun p e s m args below meth c Qm hQm hret hlk ht S hK hX hT => ?_)
  have hA : ∀ q, s.heap.size ≤ q → AA E ps s.heap.size q := fun _ h => Or.inr h
  have k1 := S.2.2.2.2 (.fieldLink RX7 23 "RhymeRoofs" "game" "LRhymeRoofs$Game;") (by decide +kernel)
  have iX7 : ∀ w ∈ wsX70, w ∈ wsX7_why := fun _ h => List.mem_cons_of_mem _ (List.mem_append_left _ (List.mem_append_left _ (List.mem_append_left _ (List.mem_append_right _ h))))
  have k2 := S.2.2.2.2 (.fieldLink RX7 157 "RhymeRoofs$Game" "turn" "I") (by decide +kernel)
  have iX1 : ∀ w ∈ wsX10, w ∈ wsX7_why := fun _ h => List.mem_cons_of_mem _ (List.mem_append_left _ (List.mem_append_left _ (List.mem_append_right _ h)))
  intro H locs ls hP hD hS hl
  unfold f_X7_why at hf
  refine lv_aload_n S.1 S.2.1 dX7_why_0 rfl (lv_at hl 0 rfl) ?_
  refine lv_aload_n S.1 S.2.1 dX7_why_1 rfl (lv_at hl 0 rfl) ?_
  refine gfX7_3 S iX7 hK hP (h11 0 (by decide)) k1 dX7_why_2 ?_
  refine gfX1_9 S iX1 hK hP (by decide) ((fun r => hG 0 r (by decide)) 0 (by decide)) k2 dX7_why_5 ?_
  refine lv_iload_n S.1 S.2.1 dX7_why_8 rfl (lv_at hl 1 rfl) ?_
  refine R_xVv (As := [.int (I 0 0 9), .int x1]) (rest := []) (k := 0) hQm S (c_X7_checkPlace hl9 (h11 := h11) (hG := hG) (hR := hR) hf) gX7_why_X7_checkPlace rfl yk_X7_checkPlace ⟨rfl, rfl⟩ ⟨Nat.le_of_ble_eq_true rfl, Nat.le_of_ble_eq_true rfl⟩ hK hP hD hS hX hT hlk ht (h11 0 (by decide)) (cF_o E _ _ 0) rfl rfl hl.1 rfl (Nat.le_of_ble_eq_true rfl) ⟨Nat.le_of_ble_eq_true rfl, Nat.le_of_ble_eq_true rfl⟩ (Nat.le_of_ble_eq_true rfl) dX7_why_9 (fun I_1 J_2 H locs hf hP hD hS => ?_)
  refine lv_aload_n S.1 S.2.1 dX7_why_12 rfl (lv_at hl 0 rfl) ?_
  refine lv_iload_n S.1 S.2.1 dX7_why_13 rfl (lv_at hl 2 rfl) ?_
  refine R_xVv (As := [.int x2]) (rest := []) (k := 0 + 1) hQm S (c_X7_checkRow hl9 (h11 := h11) (hG := hG) (hR := hR) hf) gX7_why_X7_checkRow rfl yk_X7_checkRow ⟨rfl, rfl⟩ ⟨Nat.le_of_ble_eq_true rfl, Nat.le_of_ble_eq_true rfl⟩ hK hP hD hS hX hT hlk ht (h11 0 (by decide)) (cF_o E _ _ 0) rfl rfl hl.1 rfl (Nat.le_of_ble_eq_true rfl) ⟨Nat.le_of_ble_eq_true rfl, Nat.le_of_ble_eq_true rfl⟩ (Nat.le_of_ble_eq_true rfl) dX7_why_14 (fun I_3 J_4 H locs hf hP hD hS => ?_)
  refine lv_aload_n S.1 S.2.1 dX7_why_17 rfl (lv_at hl 0 rfl) ?_
  refine gfX7_3 S iX7 hK hP (h11 0 (by decide)) k1 dX7_why_18 ?_
  refine lv_iload_n S.1 S.2.1 dX7_why_21 rfl (lv_at hl 1 rfl) ?_
  refine lv_iload_n S.1 S.2.1 dX7_why_22 rfl (lv_at hl 2 rfl) ?_
  refine R_cVi (As := [.int x1, .int x2]) (rest := []) S (c_X1_obstacleNow (hB := (by decide)) (hM := (fun r => hG 0 r (by decide)))  hf) gX7_why_X1_obstacleNow rfl yk_X1_obstacleNow ⟨⟨Nat.le_of_ble_eq_true rfl, Nat.le_of_ble_eq_true rfl⟩, rfl, rfl⟩ hK hP hD hS hX hA ((fun r => hG 0 r (by decide)) 0 (by decide)) (cF_g E (by decide) _ _ 0) rfl rfl hl.1 rfl (Nat.le_of_ble_eq_true rfl) ⟨Nat.le_of_ble_eq_true rfl, Nat.le_of_ble_eq_true rfl⟩ dX7_why_23 (fun v_7 I_5 J_6 H locs hf hP hD hS => ?_)
  exact hret hf rfl hP hD hS dX7_why_26 (Nat.le_of_ble_eq_true rfl)
