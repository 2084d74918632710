abbrev rmX1_stateNumber : Room := { frames := 4, cells := 0, slots := 0, locals := 97 }
theorem yk_X1_stateNumber : yOk yX1_stateNumber RX1 1 := by unfold yOk; decide +kernel
def f_X1_stateNumber (b : Nat) (x1 : Int32) (I : MI) (J : MJ) (Q : Int32 → MI → MJ → Prop) : Prop :=
  ((x1 = (0 : Int32) → Q (I b 1 3) I J) ∧ (¬ x1 = (0 : Int32) → ((x1 = (1 : Int32) → Q (I b 1 4) I J) ∧ (¬ x1 = (1 : Int32) → ((x1 = (2 : Int32) → Q (I b 1 5) I J) ∧ (¬ x1 = (2 : Int32) → ((x1 = (3 : Int32) → Q (I b 1 6) I J) ∧ (¬ x1 = (3 : Int32) → ((x1 = (4 : Int32) → Q (I b 1 7) I J) ∧ (¬ x1 = (4 : Int32) → ((x1 = (5 : Int32) → Q (I b 0 9) I J) ∧ (¬ x1 = (5 : Int32) → ((x1 = (6 : Int32) → (((I b 0 11) = (0 : Int32) → Q (0 : Int32) I J) ∧ (¬ (I b 0 11) = (0 : Int32) → Q (1 : Int32) I J))) ∧ (¬ x1 = (6 : Int32) → ((x1 = (7 : Int32) → Q (I b 0 10) I J) ∧ (¬ x1 = (7 : Int32) → ((x1 = (8 : Int32) → f_X1_wordsOnRows b I J (fun (v_5 : Int32) (I_3 : MI) (J_4 : MJ) => Q v_5 I_3 J_4)) ∧ (¬ x1 = (8 : Int32) → ((x1 = (9 : Int32) → f_X1_filledRows b I J (fun (v_8 : Int32) (I_6 : MI) (J_7 : MJ) => Q v_8 I_6 J_7)) ∧ (¬ x1 = (9 : Int32) → ((x1 = (10 : Int32) → f_X1_playsNow b I J (fun (v_11 : Int32) (I_9 : MI) (J_10 : MJ) => Q v_11 I_9 J_10)) ∧ (¬ x1 = (10 : Int32) → f_X1_wordsOfHands b I J (fun (v_14 : Int32) (I_12 : MI) (J_13 : MJ) => Q v_14 I_12 J_13)))))))))))))))))))))))
set_option maxRecDepth 100000 in
set_option maxHeartbeats 4000000 in
theorem c_X1_stateNumber {l : Launch} {E : EV} {ps : List (Nat × Nat)} {b : Nat} (hB : b < 11) (hM : ∀ r, r < 16 → (b, r) ∈ ps) {x1 : Int32} {I : MI} {J : MJ} {Q : Int32 → MI → MJ → Prop} (hf : f_X1_stateNumber b x1 I J Q) : KI l yX1_stateNumber wsX1_stateNumber rmX1_stateNumber E ps [.ref (eA E b 0), .int x1] I J Q := by
  refine K_ofI (cc := cX1_stateNumber) (maxL := 2) (ty := .int) (by decide +kernel) rfl (Nat.le_of_ble_eq_true rfl) (fun p e s m args below meth c Qm hret S hK hX => ?_)
  have hA : ∀ q, s.heap.size ≤ q → AA E ps s.heap.size q := fun _ h => Or.inr h
  have k1 := S.2.2.2.2 (.fieldLink RX1 12 "RhymeRoofs$Game" "rules" "LRhymeRoofs$Rules;") (by decide +kernel)
  have iX1 : ∀ w ∈ wsX10, w ∈ wsX1_stateNumber := fun _ h => List.mem_cons_of_mem _ (List.mem_append_left _ (List.mem_append_right _ h))
  have k2 := S.2.2.2.2 (.fieldLink RX1 83 "RhymeRoofs$Rules" "rows" "I") (by decide +kernel)
  have iX4 : ∀ w ∈ wsX40, w ∈ wsX1_stateNumber := fun _ h => List.mem_cons_of_mem _ (List.mem_append_right _ h)
  have k3 := S.2.2.2.2 (.fieldLink RX1 86 "RhymeRoofs$Rules" "players" "I") (by decide +kernel)
  have k4 := S.2.2.2.2 (.fieldLink RX1 89 "RhymeRoofs$Rules" "need" "I") (by decide +kernel)
  have k5 := S.2.2.2.2 (.fieldLink RX1 92 "RhymeRoofs$Rules" "bonus" "I") (by decide +kernel)
  have k6 := S.2.2.2.2 (.fieldLink RX1 95 "RhymeRoofs$Rules" "crown" "I") (by decide +kernel)
  have k7 := S.2.2.2.2 (.fieldLink RX1 62 "RhymeRoofs$Game" "turn" "I") (by decide +kernel)
  have k8 := S.2.2.2.2 (.fieldLink RX1 69 "RhymeRoofs$Game" "over" "Z") (by decide +kernel)
  have k9 := S.2.2.2.2 (.fieldLink RX1 66 "RhymeRoofs$Game" "passes" "I") (by decide +kernel)
  intro H locs ls hP hD hS hl
  unfold f_X1_stateNumber at hf
  refine lv_iload_n S.1 S.2.1 dX1_stateNumber_0 rfl (lv_at hl 1 rfl) ?_
  refine Classical.byCases (p := x1 = (0 : Int32)) (fun h_1 => ?_) (fun h_1_0 => ?_)
  · have hf := hf.1 h_1
    refine R_swIn (tgt := 60) (off := 59) S.1 S.2.1 dX1_stateNumber_1 h_1 (by decide) (by decide) ?_
    refine lv_aload_n S.1 S.2.1 dX1_stateNumber_60 rfl (lv_at hl 0 rfl) ?_
    refine gfX1_0 S iX1 hK hP hB (hM 0 (by decide)) k1 dX1_stateNumber_61 ?_
    refine gfX4_3 S iX4 hK hP hB (hM 1 (by decide)) k2 dX1_stateNumber_64 ?_
    exact hret hf rfl hP hD hS dX1_stateNumber_67
  have hf := hf.2 h_1_0
  refine Classical.byCases (p := x1 = (1 : Int32)) (fun h_1 => ?_) (fun h_1_1 => ?_)
  · have hf := hf.1 h_1
    refine R_swIn (tgt := 68) (off := 67) S.1 S.2.1 dX1_stateNumber_1 h_1 (by decide) (by decide) ?_
    refine lv_aload_n S.1 S.2.1 dX1_stateNumber_68 rfl (lv_at hl 0 rfl) ?_
    refine gfX1_0 S iX1 hK hP hB (hM 0 (by decide)) k1 dX1_stateNumber_69 ?_
    refine gfX4_4 S iX4 hK hP hB (hM 1 (by decide)) k3 dX1_stateNumber_72 ?_
    exact hret hf rfl hP hD hS dX1_stateNumber_75
  have hf := hf.2 h_1_1
  refine Classical.byCases (p := x1 = (2 : Int32)) (fun h_1 => ?_) (fun h_1_2 => ?_)
  · have hf := hf.1 h_1
    refine R_swIn (tgt := 76) (off := 75) S.1 S.2.1 dX1_stateNumber_1 h_1 (by decide) (by decide) ?_
    refine lv_aload_n S.1 S.2.1 dX1_stateNumber_76 rfl (lv_at hl 0 rfl) ?_
    refine gfX1_0 S iX1 hK hP hB (hM 0 (by decide)) k1 dX1_stateNumber_77 ?_
    refine gfX4_5 S iX4 hK hP hB (hM 1 (by decide)) k4 dX1_stateNumber_80 ?_
    exact hret hf rfl hP hD hS dX1_stateNumber_83
  have hf := hf.2 h_1_2
  refine Classical.byCases (p := x1 = (3 : Int32)) (fun h_1 => ?_) (fun h_1_3 => ?_)
  · have hf := hf.1 h_1
    refine R_swIn (tgt := 84) (off := 83) S.1 S.2.1 dX1_stateNumber_1 h_1 (by decide) (by decide) ?_
    refine lv_aload_n S.1 S.2.1 dX1_stateNumber_84 rfl (lv_at hl 0 rfl) ?_
    refine gfX1_0 S iX1 hK hP hB (hM 0 (by decide)) k1 dX1_stateNumber_85 ?_
    refine gfX4_6 S iX4 hK hP hB (hM 1 (by decide)) k5 dX1_stateNumber_88 ?_
    exact hret hf rfl hP hD hS dX1_stateNumber_91
  have hf := hf.2 h_1_3
  refine Classical.byCases (p := x1 = (4 : Int32)) (fun h_1 => ?_) (fun h_1_4 => ?_)
  · have hf := hf.1 h_1
    refine R_swIn (tgt := 92) (off := 91) S.1 S.2.1 dX1_stateNumber_1 h_1 (by decide) (by decide) ?_
    refine lv_aload_n S.1 S.2.1 dX1_stateNumber_92 rfl (lv_at hl 0 rfl) ?_
    refine gfX1_0 S iX1 hK hP hB (hM 0 (by decide)) k1 dX1_stateNumber_93 ?_
    refine gfX4_7 S iX4 hK hP hB (hM 1 (by decide)) k6 dX1_stateNumber_96 ?_
    exact hret hf rfl hP hD hS dX1_stateNumber_99
  have hf := hf.2 h_1_4
  refine Classical.byCases (p := x1 = (5 : Int32)) (fun h_1 => ?_) (fun h_1_5 => ?_)
  · have hf := hf.1 h_1
    refine R_swIn (tgt := 100) (off := 99) S.1 S.2.1 dX1_stateNumber_1 h_1 (by decide) (by decide) ?_
    refine lv_aload_n S.1 S.2.1 dX1_stateNumber_100 rfl (lv_at hl 0 rfl) ?_
    refine gfX1_9 S iX1 hK hP hB (hM 0 (by decide)) k7 dX1_stateNumber_101 ?_
    exact hret hf rfl hP hD hS dX1_stateNumber_104
  have hf := hf.2 h_1_5
  refine Classical.byCases (p := x1 = (6 : Int32)) (fun h_1 => ?_) (fun h_1_6 => ?_)
  · have hf := hf.1 h_1
    refine R_swIn (tgt := 105) (off := 104) S.1 S.2.1 dX1_stateNumber_1 h_1 (by decide) (by decide) ?_
    refine lv_aload_n S.1 S.2.1 dX1_stateNumber_105 rfl (lv_at hl 0 rfl) ?_
    refine gfX1_11 S iX1 hK hP hB (hM 0 (by decide)) k8 dX1_stateNumber_106 ?_
    refine lv_if_eq (tgt := 116) S.1 S.2.1 dX1_stateNumber_109 (by decide) (fun h_2 => ?_) (fun h_2 => ?_)
    · have hf := hf.1 h_2
      refine lv_iconst (v := 0) S.1 S.2.1 dX1_stateNumber_116 rfl ?_
      exact hret hf rfl hP hD hS dX1_stateNumber_117
    · have hf := hf.2 h_2
      refine lv_iconst (v := 1) S.1 S.2.1 dX1_stateNumber_112 rfl ?_
      refine lv_goto (tgt := 117) S.1 S.2.1 dX1_stateNumber_113 (by decide) ?_
      exact hret hf rfl hP hD hS dX1_stateNumber_117
  have hf := hf.2 h_1_6
  refine Classical.byCases (p := x1 = (7 : Int32)) (fun h_1 => ?_) (fun h_1_7 => ?_)
  · have hf := hf.1 h_1
    refine R_swIn (tgt := 118) (off := 117) S.1 S.2.1 dX1_stateNumber_1 h_1 (by decide) (by decide) ?_
    refine lv_aload_n S.1 S.2.1 dX1_stateNumber_118 rfl (lv_at hl 0 rfl) ?_
    refine gfX1_10 S iX1 hK hP hB (hM 0 (by decide)) k9 dX1_stateNumber_119 ?_
    exact hret hf rfl hP hD hS dX1_stateNumber_122
  have hf := hf.2 h_1_7
  refine Classical.byCases (p := x1 = (8 : Int32)) (fun h_1 => ?_) (fun h_1_8 => ?_)
  · have hf := hf.1 h_1
    refine R_swIn (tgt := 123) (off := 122) S.1 S.2.1 dX1_stateNumber_1 h_1 (by decide) (by decide) ?_
    refine lv_aload_n S.1 S.2.1 dX1_stateNumber_123 rfl (lv_at hl 0 rfl) ?_
    refine R_cVi (As := []) (rest := []) S (c_X1_wordsOnRows (hB := hB) (hM := hM)  hf) gX1_stateNumber_X1_wordsOnRows rfl yk_X1_wordsOnRows ⟨⟨Nat.le_of_ble_eq_true rfl, Nat.le_of_ble_eq_true rfl⟩, rfl, rfl⟩ hK hP hD hS hX hA (hM 0 (by decide)) (cF_g E hB _ _ 0) rfl rfl hl.1 rfl (Nat.le_of_ble_eq_true rfl) ⟨Nat.zero_le _, Nat.zero_le _⟩ dX1_stateNumber_124 (fun v_5 I_3 J_4 H locs hf hP hD hS => ?_)
    exact hret hf rfl hP hD hS dX1_stateNumber_127
  have hf := hf.2 h_1_8
  refine Classical.byCases (p := x1 = (9 : Int32)) (fun h_1 => ?_) (fun h_1_9 => ?_)
  · have hf := hf.1 h_1
    refine R_swIn (tgt := 128) (off := 127) S.1 S.2.1 dX1_stateNumber_1 h_1 (by decide) (by decide) ?_
    refine lv_aload_n S.1 S.2.1 dX1_stateNumber_128 rfl (lv_at hl 0 rfl) ?_
    refine R_cVi (As := []) (rest := []) S (c_X1_filledRows (hB := hB) (hM := hM)  hf) gX1_stateNumber_X1_filledRows rfl yk_X1_filledRows ⟨⟨Nat.le_of_ble_eq_true rfl, Nat.le_of_ble_eq_true rfl⟩, rfl, rfl⟩ hK hP hD hS hX hA (hM 0 (by decide)) (cF_g E hB _ _ 0) rfl rfl hl.1 rfl (Nat.le_of_ble_eq_true rfl) ⟨Nat.zero_le _, Nat.zero_le _⟩ dX1_stateNumber_129 (fun v_8 I_6 J_7 H locs hf hP hD hS => ?_)
    exact hret hf rfl hP hD hS dX1_stateNumber_132
  have hf := hf.2 h_1_9
  refine Classical.byCases (p := x1 = (10 : Int32)) (fun h_1 => ?_) (fun h_1_10 => ?_)
  · have hf := hf.1 h_1
    refine R_swIn (tgt := 133) (off := 132) S.1 S.2.1 dX1_stateNumber_1 h_1 (by decide) (by decide) ?_
    refine lv_aload_n S.1 S.2.1 dX1_stateNumber_133 rfl (lv_at hl 0 rfl) ?_
    refine R_cVi (As := []) (rest := []) S (c_X1_playsNow (hB := hB) (hM := hM)  hf) gX1_stateNumber_X1_playsNow rfl yk_X1_playsNow ⟨⟨Nat.le_of_ble_eq_true rfl, Nat.le_of_ble_eq_true rfl⟩, rfl, rfl⟩ hK hP hD hS hX hA (hM 0 (by decide)) (cF_g E hB _ _ 0) rfl rfl hl.1 rfl (Nat.le_of_ble_eq_true rfl) ⟨Nat.zero_le _, Nat.zero_le _⟩ dX1_stateNumber_134 (fun v_11 I_9 J_10 H locs hf hP hD hS => ?_)
    exact hret hf rfl hP hD hS dX1_stateNumber_137
  have hf := hf.2 h_1_10
  refine lv_tableOut (tgt := 138) S.1 S.2.1 dX1_stateNumber_1 (by have q0 := ne_I (z := 0) h_1_0 (by decide); have q1 := ne_I (z := 1) h_1_1 (by decide); have q2 := ne_I (z := 2) h_1_2 (by decide); have q3 := ne_I (z := 3) h_1_3 (by decide); have q4 := ne_I (z := 4) h_1_4 (by decide); have q5 := ne_I (z := 5) h_1_5 (by decide); have q6 := ne_I (z := 6) h_1_6 (by decide); have q7 := ne_I (z := 7) h_1_7 (by decide); have q8 := ne_I (z := 8) h_1_8 (by decide); have q9 := ne_I (z := 9) h_1_9 (by decide); have q10 := ne_I (z := 10) h_1_10 (by decide); omega) (by decide) ?_
  refine lv_aload_n S.1 S.2.1 dX1_stateNumber_138 rfl (lv_at hl 0 rfl) ?_
  refine R_cVi (As := []) (rest := []) S (c_X1_wordsOfHands (hB := hB) (hM := hM)  hf) gX1_stateNumber_X1_wordsOfHands rfl yk_X1_wordsOfHands ⟨⟨Nat.le_of_ble_eq_true rfl, Nat.le_of_ble_eq_true rfl⟩, rfl, rfl⟩ hK hP hD hS hX hA (hM 0 (by decide)) (cF_g E hB _ _ 0) rfl rfl hl.1 rfl (Nat.le_of_ble_eq_true rfl) ⟨Nat.zero_le _, Nat.zero_le _⟩ dX1_stateNumber_139 (fun v_14 I_12 J_13 H locs hf hP hD hS => ?_)
  exact hret hf rfl hP hD hS dX1_stateNumber_142
abbrev rmX1_stepByRank : Room := { frames := 4, cells := 0, slots := 0, locals := 105 }
theorem yk_X1_stepByRank : yOk yX1_stepByRank RX1 0 := by unfold yOk; decide +kernel
def f_X1_stepByRank (b : Nat) (I : MI) (J : MJ) (Q : MI → MJ → Prop) : Prop :=
  f_X1_bestPlay b I J (fun (v_3 : Int32) (I_1 : MI) (J_2 : MJ) => ((v_3 = (-1 : Int32) → f_X1_passTurn b I_1 J_2 (fun (I_10 : MI) (J_11 : MJ) => Q I_10 J_11)) ∧ (¬ v_3 = (-1 : Int32) → (¬ (10 : Int32) = 0 ∧ (¬ (10 : Int32) = 0 ∧ f_X1_layWord b (v_3 / (10 : Int32)) (v_3 - v_3 / (10 : Int32) * (10 : Int32)) I_1 J_2 (fun (v_9 : Int32) (I_7 : MI) (J_8 : MJ) => Q I_7 J_8))))))
set_option maxRecDepth 100000 in
set_option maxHeartbeats 4000000 in
theorem c_X1_stepByRank {l : Launch} {E : EV} {ps : List (Nat × Nat)} {b : Nat} (hB : b < 11) (hM : ∀ r, r < 16 → (b, r) ∈ ps) {I : MI} {J : MJ} {Q : MI → MJ → Prop} (hf : f_X1_stepByRank b I J Q) : KV l yX1_stepByRank wsX1_stepByRank rmX1_stepByRank E ps [.ref (eA E b 0)] I J Q := by
  refine K_ofV (cc := cX1_stepByRank) (maxL := 2) (by decide +kernel) rfl (Nat.le_of_ble_eq_true rfl) (fun p e s m args below meth c Qm hret S hK hX => ?_)
  have hA : ∀ q, s.heap.size ≤ q → AA E ps s.heap.size q := fun _ h => Or.inr h
  intro H locs ls hP hD hS hl
  unfold f_X1_stepByRank at hf
  refine lv_aload_n S.1 S.2.1 dX1_stepByRank_0 rfl (lv_at hl 0 rfl) ?_
  refine R_cVi (As := []) (rest := []) S (c_X1_bestPlay (hB := hB) (hM := hM)  hf) gX1_stepByRank_X1_bestPlay rfl yk_X1_bestPlay ⟨⟨Nat.le_of_ble_eq_true rfl, Nat.le_of_ble_eq_true rfl⟩, rfl, rfl⟩ hK hP hD hS hX hA (hM 0 (by decide)) (cF_g E hB _ _ 0) rfl rfl hl.1 rfl (Nat.le_of_ble_eq_true rfl) ⟨Nat.zero_le _, Nat.zero_le _⟩ dX1_stepByRank_1 (fun v_3 I_1 J_2 H locs hf hP hD hS => ?_)
  refine lv_istore_n (lv' := [(1, .int v_3), (0, .ref (eA E b 0))]) S.1 S.2.1 dX1_stepByRank_4 rfl hl (by decide) rfl (fun ls hl => ?_)
  refine lv_iload_n S.1 S.2.1 dX1_stepByRank_5 rfl (lv_at hl 0 rfl) ?_
  refine lv_iconst (v := (-1)) S.1 S.2.1 dX1_stepByRank_6 rfl ?_
  refine lv_icmp_ne (tgt := 17) S.1 S.2.1 dX1_stepByRank_7 (by decide) (fun h_4 => ?_) (fun h_4 => ?_)
  · have hf := hf.2 h_4
    refine lv_aload_n S.1 S.2.1 dX1_stepByRank_17 rfl (lv_at hl 1 rfl) ?_
    refine lv_iload_n S.1 S.2.1 dX1_stepByRank_18 rfl (lv_at hl 0 rfl) ?_
    refine lv_bipush (v := 10) S.1 S.2.1 dX1_stepByRank_19 rfl ?_
    obtain ⟨h_5, hf⟩ := hf
    refine lv_idiv S.1 S.2.1 dX1_stepByRank_21 h_5 ?_
    refine lv_iload_n S.1 S.2.1 dX1_stepByRank_22 rfl (lv_at hl 0 rfl) ?_
    refine lv_bipush (v := 10) S.1 S.2.1 dX1_stepByRank_23 rfl ?_
    obtain ⟨h_6, hf⟩ := hf
    refine lv_irem S.1 S.2.1 dX1_stepByRank_25 h_6 ?_
    refine R_cVi (As := [.int (v_3 / (10 : Int32)), .int (v_3 - v_3 / (10 : Int32) * (10 : Int32))]) (rest := []) S (c_X1_layWord (hB := hB) (hM := hM)  hf) gX1_stepByRank_X1_layWord rfl yk_X1_layWord ⟨⟨Nat.le_of_ble_eq_true rfl, Nat.le_of_ble_eq_true rfl⟩, rfl, rfl⟩ hK hP hD hS hX hA (hM 0 (by decide)) (cF_g E hB _ _ 0) rfl rfl hl.1 rfl (Nat.le_of_ble_eq_true rfl) ⟨Nat.zero_le _, Nat.zero_le _⟩ dX1_stepByRank_26 (fun v_9 I_7 J_8 H locs hf hP hD hS => ?_)
    refine lv_pop S.1 S.2.1 dX1_stepByRank_29 rfl ?_
    exact hret hf hP hD hS dX1_stepByRank_30
  · have hf := hf.1 h_4
    refine lv_aload_n S.1 S.2.1 dX1_stepByRank_10 rfl (lv_at hl 1 rfl) ?_
    refine R_cVv (As := []) (rest := []) S (c_X1_passTurn (hB := hB) (hM := hM)  hf) gX1_stepByRank_X1_passTurn rfl yk_X1_passTurn ⟨⟨Nat.le_of_ble_eq_true rfl, Nat.le_of_ble_eq_true rfl⟩, rfl, rfl⟩ hK hP hD hS hX hA (hM 0 (by decide)) (cF_g E hB _ _ 0) rfl rfl hl.1 rfl (Nat.le_of_ble_eq_true rfl) ⟨Nat.zero_le _, Nat.zero_le _⟩ dX1_stepByRank_11 (fun I_10 J_11 H locs hf hP hD hS => ?_)
    refine lv_goto (tgt := 30) S.1 S.2.1 dX1_stepByRank_14 (by decide) ?_
    exact hret hf hP hD hS dX1_stepByRank_30
abbrev rmX1_playOn : Room := { frames := 5, cells := 0, slots := 0, locals := 126 }
theorem yk_X1_playOn : yOk yX1_playOn RX1 1 := by unfold yOk; decide +kernel
def f_X1_playOn_B2 (b : Nat) (x1_1 : Int32) (K24 : Int32 → MI → MJ → Prop) (rec2 : Int32 → MI → MJ → Prop) (x2_2 : Int32) (I_3 : MI) (J_4 : MJ) : Prop :=
  (((I_3 b 0 11) = (0 : Int32) → ((x1_1 ≤ x2_2 → K24 x2_2 I_3 J_4) ∧ (¬ x1_1 ≤ x2_2 → f_X1_stepByRank b I_3 J_4 (fun (I_7 : MI) (J_8 : MJ) => ∀ x2_9 : Int32, x2_9 = x2_2 + (1 : Int32) → rec2 x2_9 I_7 J_8)))) ∧ (¬ (I_3 b 0 11) = (0 : Int32) → K24 x2_2 I_3 J_4))
def f_X1_playOn_L2 (b : Nat) (x1_1 : Int32) (K24 : Int32 → MI → MJ → Prop) : Nat → Int32 → MI → MJ → Prop
  | 0, _, _, _ => False
  | n + 1, x2_2, I_3, J_4 => f_X1_playOn_B2 b x1_1 K24 (f_X1_playOn_L2 b x1_1 K24 n) x2_2 I_3 J_4
def f_X1_playOn (b : Nat) (x1 : Int32) (I : MI) (J : MJ) (Q : Int32 → MI → MJ → Prop) : Prop :=
  ∃ n : Nat, f_X1_playOn_L2 b x1 (fun (x2_10 : Int32) (I_11 : MI) (J_12 : MJ) => Q x2_10 I_11 J_12) n (0 : Int32) I J
set_option maxRecDepth 100000 in
set_option maxHeartbeats 4000000 in
theorem c_X1_playOn {l : Launch} {E : EV} {ps : List (Nat × Nat)} {b : Nat} (hB : b < 11) (hM : ∀ r, r < 16 → (b, r) ∈ ps) {x1 : Int32} {I : MI} {J : MJ} {Q : Int32 → MI → MJ → Prop} (hf : f_X1_playOn b x1 I J Q) : KI l yX1_playOn wsX1_playOn rmX1_playOn E ps [.ref (eA E b 0), .int x1] I J Q := by
  refine K_ofI (cc := cX1_playOn) (maxL := 3) (ty := .int) (by decide +kernel) rfl (Nat.le_of_ble_eq_true rfl) (fun p e s m args below meth c Qm hret S hK hX => ?_)
  have hA : ∀ q, s.heap.size ≤ q → AA E ps s.heap.size q := fun _ h => Or.inr h
  have k1 := S.2.2.2.2 (.fieldLink RX1 69 "RhymeRoofs$Game" "over" "Z") (by decide +kernel)
  have iX1 : ∀ w ∈ wsX10, w ∈ wsX1_playOn := fun _ h => List.mem_cons_of_mem _ (List.mem_append_left _ (List.mem_append_left _ (List.mem_append_right _ h)))
  intro H locs ls hP hD hS hl
  unfold f_X1_playOn at hf
  refine lv_iconst (v := 0) S.1 S.2.1 dX1_playOn_0 rfl ?_
  refine lv_istore_n (lv' := [(2, .int (0 : Int32)), (0, .ref (eA E b 0)), (1, .int x1)]) S.1 S.2.1 dX1_playOn_1 rfl hl (by decide) rfl (fun ls hl => ?_)
  obtain ⟨n_13, hf⟩ := hf
  have L2 : ∀ (x1_1 : Int32), ∀ (K24 : Int32 → MI → MJ → Prop), (∀ (x2_10 : Int32) (I_11 : MI) (J_12 : MJ), K24 x2_10 I_11 J_12 → Wj p l e (rmX1_playOn) s m args below meth c Qm E ps 3 I_11 J_12 24 [(2, .int x2_10)] []) → ∀ (n : Nat) (x2_2 : Int32) (I_3 : MI) (J_4 : MJ), f_X1_playOn_L2 b x1_1 K24 n x2_2 I_3 J_4 → Wj p l e (rmX1_playOn) s m args below meth c Qm E ps 3 I_3 J_4 2 [(0, .ref (eA E b 0)), (1, .int x1_1), (2, .int x2_2)] [] := by
    intro x1_1 K24 kx24 n
    induction n with
    | zero => intro x2_2 I_3 J_4 hf; exact hf.elim
    | succ n ih2 =>
      intro x2_2 I_3 J_4 hf
      have hf : f_X1_playOn_B2 b x1_1 K24 (f_X1_playOn_L2 b x1_1 K24 n) x2_2 I_3 J_4 := hf
      intro H locs ls hP hD hS hl
      unfold f_X1_playOn_B2 at hf
      refine lv_aload_n S.1 S.2.1 dX1_playOn_2 rfl (lv_at hl 0 rfl) ?_
      refine gfX1_11 S iX1 hK hP hB (hM 0 (by decide)) k1 dX1_playOn_3 ?_
      refine lv_if_ne (tgt := 24) S.1 S.2.1 dX1_playOn_6 (by decide) (fun h_5 => ?_) (fun h_5 => ?_)
      · have hf := hf.2 h_5
        exact kx24 _ _ _ hf _ _ _ hP hD hS (lv_sub hl [2] rfl)
      · have hf := hf.1 h_5
        refine lv_iload_n S.1 S.2.1 dX1_playOn_9 rfl (lv_at hl 2 rfl) ?_
        refine lv_iload_n S.1 S.2.1 dX1_playOn_10 rfl (lv_at hl 1 rfl) ?_
        refine lv_icmp_ge (tgt := 24) S.1 S.2.1 dX1_playOn_11 (by decide) (fun h_6 => ?_) (fun h_6 => ?_)
        · have hf := hf.1 h_6
          exact kx24 _ _ _ hf _ _ _ hP hD hS (lv_sub hl [2] rfl)
        · have hf := hf.2 h_6
          refine lv_aload_n S.1 S.2.1 dX1_playOn_14 rfl (lv_at hl 0 rfl) ?_
          refine R_cVv (As := []) (rest := []) S (c_X1_stepByRank (hB := hB) (hM := hM)  hf) gX1_playOn_X1_stepByRank rfl yk_X1_stepByRank ⟨⟨Nat.le_of_ble_eq_true rfl, Nat.le_of_ble_eq_true rfl⟩, rfl, rfl⟩ hK hP hD hS hX hA (hM 0 (by decide)) (cF_g E hB _ _ 0) rfl rfl hl.1 rfl (Nat.le_of_ble_eq_true rfl) ⟨Nat.zero_le _, Nat.zero_le _⟩ dX1_playOn_15 (fun I_7 J_8 H locs hf hP hD hS => ?_)
          refine nm_o hf (fun x2_9 ex2_9 hf => ?_)
          refine lv_iinc (v := x2_9) (lv' := [(2, .int x2_9), (0, .ref (eA E b 0)), (1, .int x1_1)]) S.1 S.2.1 dX1_playOn_18 hl (k := 2) rfl (by rw [ex2_9]; rfl) (by decide) rfl (fun ls hl => ?_)
          refine lv_goto (tgt := 2) S.1 S.2.1 dX1_playOn_21 (by decide) ?_
          exact ih2 _ _ _ hf _ _ _ hP hD hS (lv_sub hl [1, 2, 0] rfl)
  refine L2 _ _ (fun x2_10 I_11 J_12 hf H locs ls hP hD hS hl => ?_)  n_13 _ _ _ hf _ _ _ hP hD hS (lv_sub hl [1, 2, 0] rfl)
  refine lv_iload_n S.1 S.2.1 dX1_playOn_24 rfl (lv_at hl 0 rfl) ?_
  exact hret hf rfl hP hD hS dX1_playOn_25
