abbrev rmX7_tile : Room := { frames := 7, cells := 4, slots := 24, locals := 111 }
theorem yk_X7_tile : yOk yX7_tile RX7 2 := by unfold yOk; decide +kernel
set_option maxRecDepth 100000 in
set_option maxHeartbeats 4000000 in
theorem c_X7_tile {l : Launch} {E : EV} {ps : List (Nat × Nat)} (hl9 : l.stackTraces = false) (h11 : ∀ r, r < 11 → (11, r) ∈ ps) (hG : ∀ k r, k < 11 → r < 16 → (k, r) ∈ ps) (hR : (eT E)[2]? = some (eG E, .object "RhymeRoofs$Game")) {x1 : Int32} {x2 : Int32} {I : MI} {J : MJ} {Q : Int32 → MI → MJ → Prop} {X : Nat → MI → MJ → Prop} (hf : f_X7_tile x1 x2 I J Q X) : YI l yX7_tile wsX7_tile rmX7_tile E ps [.ref (eA E 11 0), .int x1, .int x2] I J Q X 4 24 := by
  refine Y_ofI (cc := cX7_tile) (maxL := 3) (mc := 4) (ty := .int) (by decide +kernel) rfl (Nat.le_of_ble_eq_true rfl) (fun p e s m args below meth c Qm hQm hret hlk ht S hK hX hT => ?_)
  have hA : ∀ q, s.heap.size ≤ q → AA E ps s.heap.size q := fun _ h => Or.inr h
  have k1 := S.2.2.2.2 (.fieldLink RX7 23 "RhymeRoofs" "game" "LRhymeRoofs$Game;") (by decide +kernel)
  have iX7 : ∀ w ∈ wsX70, w ∈ wsX7_tile := fun _ h => List.mem_cons_of_mem _ (List.mem_append_left _ (List.mem_append_left _ (List.mem_append_left _ (List.mem_append_left _ (List.mem_append_right _ h)))))
  have k2 := S.2.2.2.2 (.fieldLink RX7 96 "RhymeRoofs$Game" "rules" "LRhymeRoofs$Rules;") (by decide +kernel)
  have iX1 : ∀ w ∈ wsX10, w ∈ wsX7_tile := fun _ h => List.mem_cons_of_mem _ (List.mem_append_left _ (List.mem_append_left _ (List.mem_append_left _ (List.mem_append_right _ h))))
  have k3 := S.2.2.2.2 (.fieldLink RX7 100 "RhymeRoofs$Rules" "tiles" "[I") (by decide +kernel)
  have iX4 : ∀ w ∈ wsX40, w ∈ wsX7_tile := fun _ h => List.mem_cons_of_mem _ (List.mem_append_left _ (List.mem_append_left _ (List.mem_append_right _ h)))
  intro H locs ls hP hD hS hl
  unfold f_X7_tile at hf
  refine lv_aload_n S.1 S.2.1 dX7_tile_0 rfl (lv_at hl 0 rfl) ?_
  refine lv_iload_n S.1 S.2.1 dX7_tile_1 rfl (lv_at hl 1 rfl) ?_
  refine R_xVv (As := [.int x1]) (rest := []) (k := 0) hQm S (c_X7_checkRow hl9 (h11 := h11) (hG := hG) (hR := hR) hf) gX7_tile_X7_checkRow rfl yk_X7_checkRow ⟨rfl, rfl⟩ ⟨Nat.le_of_ble_eq_true rfl, Nat.le_of_ble_eq_true rfl⟩ hK hP hD hS hX hT hlk ht (h11 0 (by decide)) (cF_o E _ _ 0) rfl rfl hl.1 rfl (Nat.le_of_ble_eq_true rfl) ⟨Nat.le_of_ble_eq_true rfl, Nat.le_of_ble_eq_true rfl⟩ (Nat.le_of_ble_eq_true rfl) dX7_tile_2 (fun I_1 J_2 H locs hf hP hD hS => ?_)
  refine lv_iload_n S.1 S.2.1 dX7_tile_5 rfl (lv_at hl 2 rfl) ?_
  refine lv_if_lt (tgt := 25) S.1 S.2.1 dX7_tile_6 (by decide) (fun h_3 => ?_) (fun h_3 => ?_)
  · have hf := hf.1 h_3
    exact R_thrN (k := 0 + 1) hQm hl9 S hK hX hT hlk ht "no such tile" (by decide +kernel) (by decide +kernel) (by decide +kernel) (fun _ h => List.mem_cons_of_mem _ (List.mem_append_left _ (List.mem_append_right _ h))) (by decide +kernel) (by decide +kernel) hf hP hD hS hl.1 dX7_tile_25 dX7_tile_28 dX7_tile_29 dX7_tile_31 dX7_tile_34 (Nat.le_of_ble_eq_true rfl) (Nat.le_of_ble_eq_true rfl) ⟨Nat.le_of_ble_eq_true rfl, Nat.le_of_ble_eq_true rfl⟩ (Nat.le_of_ble_eq_true rfl)
  · have hf := hf.2 h_3
    refine lv_iload_n S.1 S.2.1 dX7_tile_9 rfl (lv_at hl 2 rfl) ?_
    refine lv_aload_n S.1 S.2.1 dX7_tile_10 rfl (lv_at hl 0 rfl) ?_
    refine gfX7_3 S iX7 hK hP (h11 0 (by decide)) k1 dX7_tile_11 ?_
    refine gfX1_0 S iX1 hK hP (by decide) ((fun r => hG 0 r (by decide)) 0 (by decide)) k2 dX7_tile_14 ?_
    refine gfX4_0 S iX4 hK hP (by decide) ((fun r => hG 0 r (by decide)) 1 (by decide)) k3 dX7_tile_17 ?_
    refine lv_iload_n S.1 S.2.1 dX7_tile_20 rfl (lv_at hl 1 rfl) ?_
    obtain ⟨h_4, hf⟩ := hf
    refine R_iald S.1 S.2.1 hK hP ((fun r => hG 0 r (by decide)) 3 (by decide)) (IAg3 E (by decide)) h_4 dX7_tile_21 ?_
    refine lv_icmp_lt (tgt := 35) S.1 S.2.1 dX7_tile_22 (by decide) (fun h_5 => ?_) (fun h_5 => ?_)
    · have hf := hf.1 h_5
      refine lv_aload_n S.1 S.2.1 dX7_tile_35 rfl (lv_at hl 0 rfl) ?_
      refine gfX7_3 S iX7 hK hP (h11 0 (by decide)) k1 dX7_tile_36 ?_
      refine lv_iload_n S.1 S.2.1 dX7_tile_39 rfl (lv_at hl 1 rfl) ?_
      refine lv_iload_n S.1 S.2.1 dX7_tile_40 rfl (lv_at hl 2 rfl) ?_
      refine R_cVi (As := [.int x1, .int x2]) (rest := []) S (c_X1_letterOnTile (hB := (by decide)) (hM := (fun r => hG 0 r (by decide)))  hf) gX7_tile_X1_letterOnTile rfl yk_X1_letterOnTile ⟨⟨Nat.le_of_ble_eq_true rfl, Nat.le_of_ble_eq_true rfl⟩, rfl, rfl⟩ hK hP hD hS hX hA ((fun r => hG 0 r (by decide)) 0 (by decide)) (cF_g E (by decide) _ _ 0) rfl rfl hl.1 rfl (Nat.le_of_ble_eq_true rfl) ⟨Nat.le_of_ble_eq_true rfl, Nat.le_of_ble_eq_true rfl⟩ dX7_tile_41 (fun v_8 I_6 J_7 H locs hf hP hD hS => ?_)
      exact hret hf rfl hP hD hS dX7_tile_44 (Nat.le_of_ble_eq_true rfl)
    · have hf := hf.2 h_5
      exact R_thrN (k := 0 + 1) hQm hl9 S hK hX hT hlk ht "no such tile" (by decide +kernel) (by decide +kernel) (by decide +kernel) (fun _ h => List.mem_cons_of_mem _ (List.mem_append_left _ (List.mem_append_right _ h))) (by decide +kernel) (by decide +kernel) hf hP hD hS hl.1 dX7_tile_25 dX7_tile_28 dX7_tile_29 dX7_tile_31 dX7_tile_34 (Nat.le_of_ble_eq_true rfl) (Nat.le_of_ble_eq_true rfl) ⟨Nat.le_of_ble_eq_true rfl, Nat.le_of_ble_eq_true rfl⟩ (Nat.le_of_ble_eq_true rfl)
abbrev rmX7_letter : Room := { frames := 7, cells := 4, slots := 24, locals := 112 }
theorem yk_X7_letter : yOk yX7_letter RX7 3 := by unfold yOk; decide +kernel
set_option maxRecDepth 100000 in
set_option maxHeartbeats 4000000 in
theorem c_X7_letter {l : Launch} {E : EV} {ps : List (Nat × Nat)} (hl9 : l.stackTraces = false) (h11 : ∀ r, r < 11 → (11, r) ∈ ps) (hG : ∀ k r, k < 11 → r < 16 → (k, r) ∈ ps) (hR : (eT E)[2]? = some (eG E, .object "RhymeRoofs$Game")) {x1 : Int32} {x2 : Int32} {x3 : Int32} {I : MI} {J : MJ} {Q : Int32 → MI → MJ → Prop} {X : Nat → MI → MJ → Prop} (hf : f_X7_letter x1 x2 x3 I J Q X) : YI l yX7_letter wsX7_letter rmX7_letter E ps [.ref (eA E 11 0), .int x1, .int x2, .int x3] I J Q X 4 24 := by
  refine Y_ofI (cc := cX7_letter) (maxL := 6) (mc := 4) (ty := .int) (by decide +kernel) rfl (Nat.le_of_ble_eq_true rfl) (fun p e s m args below meth c Qm hQm hret hlk ht S hK hX hT => ?_)
  have hA : ∀ q, s.heap.size ≤ q → AA E ps s.heap.size q := fun _ h => Or.inr h
  have k1 := S.2.2.2.2 (.fieldLink RX7 23 "RhymeRoofs" "game" "LRhymeRoofs$Game;") (by decide +kernel)
  have iX7 : ∀ w ∈ wsX70, w ∈ wsX7_letter := fun _ h => List.mem_cons_of_mem _ (List.mem_append_left _ (List.mem_append_left _ (List.mem_append_left _ (List.mem_append_left _ (List.mem_append_right _ h)))))
  intro H locs ls hP hD hS hl
  unfold f_X7_letter at hf
  refine lv_aload_n S.1 S.2.1 dX7_letter_0 rfl (lv_at hl 0 rfl) ?_
  refine lv_iload_n S.1 S.2.1 dX7_letter_1 rfl (lv_at hl 1 rfl) ?_
  refine R_xVv (As := [.int x1]) (rest := []) (k := 0) hQm S (c_X7_checkPlayer hl9 (h11 := h11) (hG := hG) (hR := hR) hf) gX7_letter_X7_checkPlayer rfl yk_X7_checkPlayer ⟨rfl, rfl⟩ ⟨Nat.le_of_ble_eq_true rfl, Nat.le_of_ble_eq_true rfl⟩ hK hP hD hS hX hT hlk ht (h11 0 (by decide)) (cF_o E _ _ 0) rfl rfl hl.1 rfl (Nat.le_of_ble_eq_true rfl) ⟨Nat.le_of_ble_eq_true rfl, Nat.le_of_ble_eq_true rfl⟩ (Nat.le_of_ble_eq_true rfl) dX7_letter_2 (fun I_1 J_2 H locs hf hP hD hS => ?_)
  refine lv_aload_n S.1 S.2.1 dX7_letter_5 rfl (lv_at hl 0 rfl) ?_
  refine lv_iload_n S.1 S.2.1 dX7_letter_6 rfl (lv_at hl 1 rfl) ?_
  refine lv_iload_n S.1 S.2.1 dX7_letter_7 rfl (lv_at hl 2 rfl) ?_
  refine R_xVv (As := [.int x1, .int x2]) (rest := []) (k := 0 + 1) hQm S (c_X7_checkPlace hl9 (h11 := h11) (hG := hG) (hR := hR) hf) gX7_letter_X7_checkPlace rfl yk_X7_checkPlace ⟨rfl, rfl⟩ ⟨Nat.le_of_ble_eq_true rfl, Nat.le_of_ble_eq_true rfl⟩ hK hP hD hS hX hT hlk ht (h11 0 (by decide)) (cF_o E _ _ 0) rfl rfl hl.1 rfl (Nat.le_of_ble_eq_true rfl) ⟨Nat.le_of_ble_eq_true rfl, Nat.le_of_ble_eq_true rfl⟩ (Nat.le_of_ble_eq_true rfl) dX7_letter_8 (fun I_3 J_4 H locs hf hP hD hS => ?_)
  refine lv_aload_n S.1 S.2.1 dX7_letter_11 rfl (lv_at hl 0 rfl) ?_
  refine gfX7_3 S iX7 hK hP (h11 0 (by decide)) k1 dX7_letter_12 ?_
  refine lv_iload_n S.1 S.2.1 dX7_letter_15 rfl (lv_at hl 1 rfl) ?_
  refine lv_iload_n S.1 S.2.1 dX7_letter_16 rfl (lv_at hl 2 rfl) ?_
  refine R_cVl (As := [.int x1, .int x2]) (rest := []) S (c_X1_wordOf (hB := (by decide)) (hM := (fun r => hG 0 r (by decide)))  hf) gX7_letter_X1_wordOf rfl yk_X1_wordOf ⟨⟨Nat.le_of_ble_eq_true rfl, Nat.le_of_ble_eq_true rfl⟩, rfl, rfl⟩ hK hP hD hS hX hA ((fun r => hG 0 r (by decide)) 0 (by decide)) (cF_g E (by decide) _ _ 0) rfl rfl hl.1 rfl (Nat.le_of_ble_eq_true rfl) ⟨Nat.le_of_ble_eq_true rfl, Nat.le_of_ble_eq_true rfl⟩ dX7_letter_17 (fun v_7 I_5 J_6 H locs hf hP hD hS => ?_)
  refine lv_lstore (lv' := [(4, .long v_7), (0, .ref (eA E 11 0)), (1, .int x1), (2, .int x2), (3, .int x3)]) S.1 S.2.1 dX7_letter_20 hl (by decide) rfl (fun ls hl => ?_)
  refine lv_iload_n S.1 S.2.1 dX7_letter_22 rfl (lv_at hl 4 rfl) ?_
  refine lv_if_lt (tgt := 35) S.1 S.2.1 dX7_letter_23 (by decide) (fun h_8 => ?_) (fun h_8 => ?_)
  · have hf := hf.1 h_8
    exact R_thrN (k := 0 + 1 + 1) hQm hl9 S hK hX hT hlk ht "the word has not so many letters" (by decide +kernel) (by decide +kernel) (by decide +kernel) (fun _ h => List.mem_cons_of_mem _ (List.mem_append_left _ (List.mem_append_right _ h))) (by decide +kernel) (by decide +kernel) hf hP hD hS hl.1 dX7_letter_35 dX7_letter_38 dX7_letter_39 dX7_letter_41 dX7_letter_44 (Nat.le_of_ble_eq_true rfl) (Nat.le_of_ble_eq_true rfl) ⟨Nat.le_of_ble_eq_true rfl, Nat.le_of_ble_eq_true rfl⟩ (Nat.le_of_ble_eq_true rfl)
  · have hf := hf.2 h_8
    refine lv_iload_n S.1 S.2.1 dX7_letter_26 rfl (lv_at hl 4 rfl) ?_
    refine lv_lload S.1 S.2.1 dX7_letter_27 (lv_at hl 0 rfl) ?_
    refine R_cSi (As := [.long v_7]) (rest := [.int x3]) S (c_X6_length   hf) gX7_letter_X6_length rfl yk_X6_length ⟨⟨Nat.le_of_ble_eq_true rfl, Nat.le_of_ble_eq_true rfl⟩, rfl, rfl⟩ hK hP hD hS hX hA rfl hl.1 rfl (Nat.le_of_ble_eq_true rfl) ⟨Nat.le_of_ble_eq_true rfl, Nat.le_of_ble_eq_true rfl⟩ dX7_letter_29 (fun v_11 I_9 J_10 H locs hf hP hD hS => ?_)
    refine lv_icmp_lt (tgt := 45) S.1 S.2.1 dX7_letter_32 (by decide) (fun h_12 => ?_) (fun h_12 => ?_)
    · have hf := hf.1 h_12
      refine lv_lload S.1 S.2.1 dX7_letter_45 (lv_at hl 0 rfl) ?_
      refine lv_iload_n S.1 S.2.1 dX7_letter_47 rfl (lv_at hl 4 rfl) ?_
      refine R_cSi (As := [.long v_7, .int x3]) (rest := []) S (c_X6_letterAt   hf) gX7_letter_X6_letterAt rfl yk_X6_letterAt ⟨⟨Nat.le_of_ble_eq_true rfl, Nat.le_of_ble_eq_true rfl⟩, rfl, rfl⟩ hK hP hD hS hX hA rfl hl.1 rfl (Nat.le_of_ble_eq_true rfl) ⟨Nat.le_of_ble_eq_true rfl, Nat.le_of_ble_eq_true rfl⟩ dX7_letter_48 (fun v_15 I_13 J_14 H locs hf hP hD hS => ?_)
      exact hret hf rfl hP hD hS dX7_letter_51 (Nat.le_of_ble_eq_true rfl)
    · have hf := hf.2 h_12
      exact R_thrN (k := 0 + 1 + 1) hQm hl9 S hK hX hT hlk ht "the word has not so many letters" (by decide +kernel) (by decide +kernel) (by decide +kernel) (fun _ h => List.mem_cons_of_mem _ (List.mem_append_left _ (List.mem_append_right _ h))) (by decide +kernel) (by decide +kernel) hf hP hD hS hl.1 dX7_letter_35 dX7_letter_38 dX7_letter_39 dX7_letter_41 dX7_letter_44 (Nat.le_of_ble_eq_true rfl) (Nat.le_of_ble_eq_true rfl) ⟨Nat.le_of_ble_eq_true rfl, Nat.le_of_ble_eq_true rfl⟩ (Nat.le_of_ble_eq_true rfl)
abbrev rmX7_play : Room := { frames := 7, cells := 4, slots := 24, locals := 112 }
theorem yk_X7_play : yOk yX7_play RX7 3 := by unfold yOk; decide +kernel
set_option maxRecDepth 100000 in
set_option maxHeartbeats 4000000 in
theorem c_X7_play {l : Launch} {E : EV} {ps : List (Nat × Nat)} (hl9 : l.stackTraces = false) (h11 : ∀ r, r < 11 → (11, r) ∈ ps) (hG : ∀ k r, k < 11 → r < 16 → (k, r) ∈ ps) (hR : (eT E)[2]? = some (eG E, .object "RhymeRoofs$Game")) {x1 : Int32} {x2 : Int32} {x3 : Int32} {I : MI} {J : MJ} {Q : Int32 → MI → MJ → Prop} {X : Nat → MI → MJ → Prop} (hf : f_X7_play x1 x2 x3 I J Q X) : YI l yX7_play wsX7_play rmX7_play E ps [.ref (eA E 11 0), .int x1, .int x2, .int x3] I J Q X 4 24 := by
  refine Y_ofI (cc := cX7_play) (maxL := 4) (mc := 4) (ty := .int) (by decide +kernel) rfl (Nat.le_of_ble_eq_true rfl) (fun p e s m args below meth c Qm hQm hret hlk ht S hK hX hT => ?_)
  have hA : ∀ q, s.heap.size ≤ q → AA E ps s.heap.size q := fun _ h => Or.inr h
  have k1 := S.2.2.2.2 (.fieldLink RX7 23 "RhymeRoofs" "game" "LRhymeRoofs$Game;") (by decide +kernel)
  have iX7 : ∀ w ∈ wsX70, w ∈ wsX7_play := fun _ h => List.mem_cons_of_mem _ (List.mem_append_left _ (List.mem_append_left _ (List.mem_append_left _ (List.mem_append_left _ (List.mem_append_left _ (List.mem_append_left _ (List.mem_append_right _ h)))))))
  have k2 := S.2.2.2.2 (.fieldLink RX7 157 "RhymeRoofs$Game" "turn" "I") (by decide +kernel)
  have iX1 : ∀ w ∈ wsX10, w ∈ wsX7_play := fun _ h => List.mem_cons_of_mem _ (List.mem_append_left _ (List.mem_append_left _ (List.mem_append_left _ (List.mem_append_left _ (List.mem_append_left _ (List.mem_append_right _ h))))))
  intro H locs ls hP hD hS hl
  unfold f_X7_play at hf
  refine lv_aload_n S.1 S.2.1 dX7_play_0 rfl (lv_at hl 0 rfl) ?_
  refine lv_aload_n S.1 S.2.1 dX7_play_1 rfl (lv_at hl 0 rfl) ?_
  refine gfX7_3 S iX7 hK hP (h11 0 (by decide)) k1 dX7_play_2 ?_
  refine gfX1_9 S iX1 hK hP (by decide) ((fun r => hG 0 r (by decide)) 0 (by decide)) k2 dX7_play_5 ?_
  refine lv_iload_n S.1 S.2.1 dX7_play_8 rfl (lv_at hl 1 rfl) ?_
  refine R_xVv (As := [.int (I 0 0 9), .int x1]) (rest := []) (k := 0) hQm S (c_X7_checkPlace hl9 (h11 := h11) (hG := hG) (hR := hR) hf) gX7_play_X7_checkPlace rfl yk_X7_checkPlace ⟨rfl, rfl⟩ ⟨Nat.le_of_ble_eq_true rfl, Nat.le_of_ble_eq_true rfl⟩ hK hP hD hS hX hT hlk ht (h11 0 (by decide)) (cF_o E _ _ 0) rfl rfl hl.1 rfl (Nat.le_of_ble_eq_true rfl) ⟨Nat.le_of_ble_eq_true rfl, Nat.le_of_ble_eq_true rfl⟩ (Nat.le_of_ble_eq_true rfl) dX7_play_9 (fun I_1 J_2 H locs hf hP hD hS => ?_)
  refine lv_aload_n S.1 S.2.1 dX7_play_12 rfl (lv_at hl 0 rfl) ?_
  refine lv_iload_n S.1 S.2.1 dX7_play_13 rfl (lv_at hl 2 rfl) ?_
  refine R_xVv (As := [.int x2]) (rest := []) (k := 0 + 1) hQm S (c_X7_checkRow hl9 (h11 := h11) (hG := hG) (hR := hR) hf) gX7_play_X7_checkRow rfl yk_X7_checkRow ⟨rfl, rfl⟩ ⟨Nat.le_of_ble_eq_true rfl, Nat.le_of_ble_eq_true rfl⟩ hK hP hD hS hX hT hlk ht (h11 0 (by decide)) (cF_o E _ _ 0) rfl rfl hl.1 rfl (Nat.le_of_ble_eq_true rfl) ⟨Nat.le_of_ble_eq_true rfl, Nat.le_of_ble_eq_true rfl⟩ (Nat.le_of_ble_eq_true rfl) dX7_play_14 (fun I_3 J_4 H locs hf hP hD hS => ?_)
  refine lv_iload_n S.1 S.2.1 dX7_play_17 rfl (lv_at hl 3 rfl) ?_
  refine lv_if_lt (tgt := 26) S.1 S.2.1 dX7_play_18 (by decide) (fun h_5 => ?_) (fun h_5 => ?_)
  · have hf := hf.1 h_5
    exact R_thr (names := ["java/lang/RuntimeException", "java/lang/Exception"]) (k := 0 + 1 + 1) hQm hl9 S hK hX hT hlk ht 0 (by decide) "no such number of a play" (by decide +kernel) (by decide +kernel) (by decide +kernel) (by decide +kernel) (by decide +kernel) (fun _ h => List.mem_cons_of_mem _ (List.mem_append_left _ (List.mem_append_left _ (List.mem_append_right _ h)))) (by decide +kernel) (by decide +kernel) hf hP hD hS hl.1 dX7_play_26 dX7_play_29 dX7_play_30 dX7_play_32 dX7_play_35 (Nat.le_of_ble_eq_true rfl) (Nat.le_of_ble_eq_true rfl) ⟨Nat.le_of_ble_eq_true rfl, Nat.le_of_ble_eq_true rfl⟩ (Nat.le_of_ble_eq_true rfl)
  · have hf := hf.2 h_5
    refine lv_iload_n S.1 S.2.1 dX7_play_21 rfl (lv_at hl 3 rfl) ?_
    refine lv_iconst (v := 1) S.1 S.2.1 dX7_play_22 rfl ?_
    refine lv_icmp_le (tgt := 36) S.1 S.2.1 dX7_play_23 (by decide) (fun h_6 => ?_) (fun h_6 => ?_)
    · have hf := hf.1 h_6
      refine lv_aload_n S.1 S.2.1 dX7_play_36 rfl (lv_at hl 0 rfl) ?_
      refine gfX7_3 S iX7 hK hP (h11 0 (by decide)) k1 dX7_play_37 ?_
      refine lv_iload_n S.1 S.2.1 dX7_play_40 rfl (lv_at hl 1 rfl) ?_
      refine lv_iload_n S.1 S.2.1 dX7_play_41 rfl (lv_at hl 2 rfl) ?_
      refine R_cVi (As := [.int x1, .int x2]) (rest := []) S (c_X1_obstacleNow (hB := (by decide)) (hM := (fun r => hG 0 r (by decide)))  hf) gX7_play_X1_obstacleNow rfl yk_X1_obstacleNow ⟨⟨Nat.le_of_ble_eq_true rfl, Nat.le_of_ble_eq_true rfl⟩, rfl, rfl⟩ hK hP hD hS hX hA ((fun r => hG 0 r (by decide)) 0 (by decide)) (cF_g E (by decide) _ _ 0) rfl rfl hl.1 rfl (Nat.le_of_ble_eq_true rfl) ⟨Nat.le_of_ble_eq_true rfl, Nat.le_of_ble_eq_true rfl⟩ dX7_play_42 (fun v_9 I_7 J_8 H locs hf hP hD hS => ?_)
      refine lv_if_eq (tgt := 58) S.1 S.2.1 dX7_play_45 (by decide) (fun h_10 => ?_) (fun h_10 => ?_)
      · have hf := hf.1 h_10
        refine lv_iload_n S.1 S.2.1 dX7_play_58 rfl (lv_at hl 3 rfl) ?_
        refine lv_if_ne (tgt := 88) S.1 S.2.1 dX7_play_59 (by decide) (fun h_11 => ?_) (fun h_11 => ?_)
        · have hf := hf.2 h_11
          refine lv_aload_n S.1 S.2.1 dX7_play_88 rfl (lv_at hl 0 rfl) ?_
          refine gfX7_3 S iX7 hK hP (h11 0 (by decide)) k1 dX7_play_89 ?_
          refine lv_iload_n S.1 S.2.1 dX7_play_92 rfl (lv_at hl 1 rfl) ?_
          refine lv_iload_n S.1 S.2.1 dX7_play_93 rfl (lv_at hl 2 rfl) ?_
          refine R_cVi (As := [.int x1, .int x2]) (rest := []) S (c_X1_rankOf (hB := (by decide)) (hM := (fun r => hG 0 r (by decide)))  hf) gX7_play_X1_rankOf rfl yk_X1_rankOf ⟨⟨Nat.le_of_ble_eq_true rfl, Nat.le_of_ble_eq_true rfl⟩, rfl, rfl⟩ hK hP hD hS hX hA ((fun r => hG 0 r (by decide)) 0 (by decide)) (cF_g E (by decide) _ _ 0) rfl rfl hl.1 rfl (Nat.le_of_ble_eq_true rfl) ⟨Nat.le_of_ble_eq_true rfl, Nat.le_of_ble_eq_true rfl⟩ dX7_play_94 (fun v_14 I_12 J_13 H locs hf hP hD hS => ?_)
          exact hret hf rfl hP hD hS dX7_play_97 (Nat.le_of_ble_eq_true rfl)
        · have hf := hf.1 h_11
          refine lv_aload_n S.1 S.2.1 dX7_play_62 rfl (lv_at hl 0 rfl) ?_
          refine gfX7_3 S iX7 hK hP (h11 0 (by decide)) k1 dX7_play_63 ?_
          refine lv_aload_n S.1 S.2.1 dX7_play_66 rfl (lv_at hl 0 rfl) ?_
          refine gfX7_3 S iX7 hK hP (h11 0 (by decide)) k1 dX7_play_67 ?_
          refine lv_aload_n S.1 S.2.1 dX7_play_70 rfl (lv_at hl 0 rfl) ?_
          refine gfX7_3 S iX7 hK hP (h11 0 (by decide)) k1 dX7_play_71 ?_
          refine gfX1_9 S iX1 hK hP (by decide) ((fun r => hG 0 r (by decide)) 0 (by decide)) k2 dX7_play_74 ?_
          refine lv_iload_n S.1 S.2.1 dX7_play_77 rfl (lv_at hl 1 rfl) ?_
          refine R_cVl (As := [.int (I_7 0 0 9), .int x1]) (rest := [.ref (eA E 0 0)]) S (c_X1_wordOf (hB := (by decide)) (hM := (fun r => hG 0 r (by decide)))  hf) gX7_play_X1_wordOf rfl yk_X1_wordOf ⟨⟨Nat.le_of_ble_eq_true rfl, Nat.le_of_ble_eq_true rfl⟩, rfl, rfl⟩ hK hP hD hS hX hA ((fun r => hG 0 r (by decide)) 0 (by decide)) (cF_g E (by decide) _ _ 0) rfl rfl hl.1 rfl (Nat.le_of_ble_eq_true rfl) ⟨Nat.le_of_ble_eq_true rfl, Nat.le_of_ble_eq_true rfl⟩ dX7_play_78 (fun v_17 I_15 J_16 H locs hf hP hD hS => ?_)
          refine lv_iload_n S.1 S.2.1 dX7_play_81 rfl (lv_at hl 2 rfl) ?_
          refine R_cVi (As := [.long v_17, .int x2]) (rest := []) S (c_X1_pointsFor (hB := (by decide)) (hM := (fun r => hG 0 r (by decide)))  hf) gX7_play_X1_pointsFor rfl yk_X1_pointsFor ⟨⟨Nat.le_of_ble_eq_true rfl, Nat.le_of_ble_eq_true rfl⟩, rfl, rfl⟩ hK hP hD hS hX hA ((fun r => hG 0 r (by decide)) 0 (by decide)) (cF_g E (by decide) _ _ 0) rfl rfl hl.1 rfl (Nat.le_of_ble_eq_true rfl) ⟨Nat.le_of_ble_eq_true rfl, Nat.le_of_ble_eq_true rfl⟩ dX7_play_82 (fun v_20 I_18 J_19 H locs hf hP hD hS => ?_)
          refine lv_goto (tgt := 97) S.1 S.2.1 dX7_play_85 (by decide) ?_
          exact hret hf rfl hP hD hS dX7_play_97 (Nat.le_of_ble_eq_true rfl)
      · have hf := hf.2 h_10
        exact R_thrN (k := 0 + 1 + 1) hQm hl9 S hK hX hT hlk ht "the word cannot be laid there" (by decide +kernel) (by decide +kernel) (by decide +kernel) (fun _ h => List.mem_cons_of_mem _ (List.mem_append_left _ (List.mem_append_right _ h))) (by decide +kernel) (by decide +kernel) hf hP hD hS hl.1 dX7_play_48 dX7_play_51 dX7_play_52 dX7_play_54 dX7_play_57 (Nat.le_of_ble_eq_true rfl) (Nat.le_of_ble_eq_true rfl) ⟨Nat.le_of_ble_eq_true rfl, Nat.le_of_ble_eq_true rfl⟩ (Nat.le_of_ble_eq_true rfl)
    · have hf := hf.2 h_6
      exact R_thr (names := ["java/lang/RuntimeException", "java/lang/Exception"]) (k := 0 + 1 + 1) hQm hl9 S hK hX hT hlk ht 0 (by decide) "no such number of a play" (by decide +kernel) (by decide +kernel) (by decide +kernel) (by decide +kernel) (by decide +kernel) (fun _ h => List.mem_cons_of_mem _ (List.mem_append_left _ (List.mem_append_left _ (List.mem_append_right _ h)))) (by decide +kernel) (by decide +kernel) hf hP hD hS hl.1 dX7_play_26 dX7_play_29 dX7_play_30 dX7_play_32 dX7_play_35 (Nat.le_of_ble_eq_true rfl) (Nat.le_of_ble_eq_true rfl) ⟨Nat.le_of_ble_eq_true rfl, Nat.le_of_ble_eq_true rfl⟩ (Nat.le_of_ble_eq_true rfl)
