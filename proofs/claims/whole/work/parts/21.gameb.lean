abbrev rmX1_reset : Room := { frames := 3, cells := 0, slots := 0, locals := 62 }
theorem yk_X1_reset : yOk yX1_reset RX1 0 := by unfold yOk; decide +kernel
def f_X1_reset (b : Nat) (I : MI) (J : MJ) (Q : MI → MJ → Prop) : Prop :=
  f_X4_reset b I J (fun (I_1 : MI) (J_2 : MJ) => f_J7_fill_53178 b 7 240 (0 : Int32) I_1 J_2 (fun (I_3 : MI) (J_4 : MJ) => f_J7_fill_53178 b 8 6 (0 : Int32) I_3 J_4 (fun (I_5 : MI) (J_6 : MJ) => f_J7_fill_53178 b 9 6 (0 : Int32) I_5 J_6 (fun (I_7 : MI) (J_8 : MJ) => f_J7_fill_d0a16 b 10 6 (0 : Int64) I_7 J_8 (fun (I_9 : MI) (J_10 : MJ) => f_J7_fill_53178 b 11 6 (-1 : Int32) I_9 J_10 (fun (I_11 : MI) (J_12 : MJ) => f_J7_fill_d0a16 b 12 32 (0 : Int64) I_11 J_12 (fun (I_13 : MI) (J_14 : MJ) => f_J7_fill_53178 b 13 4 (0 : Int32) I_13 J_14 (fun (I_15 : MI) (J_16 : MJ) => f_J7_fill_53178 b 14 4 (0 : Int32) I_15 J_16 (fun (I_17 : MI) (J_18 : MJ) => ∀ I_19 : MI, I_19 = sI I_17 b 0 9 (0 : Int32) → ∀ I_20 : MI, I_20 = sI I_19 b 0 10 (0 : Int32) → ∀ I_21 : MI, I_21 = sI I_20 b 0 11 (0 : Int32) → Q I_21 J_18)))))))))
set_option maxRecDepth 100000 in
set_option maxHeartbeats 4000000 in
theorem c_X1_reset {l : Launch} {E : EV} {ps : List (Nat × Nat)} {b : Nat} (hB : b < 11) (hM : ∀ r, r < 16 → (b, r) ∈ ps) {I : MI} {J : MJ} {Q : MI → MJ → Prop} (hf : f_X1_reset b I J Q) : KV l yX1_reset wsX1_reset rmX1_reset E ps [.ref (eA E b 0)] I J Q := by
  refine K_ofV (cc := cX1_reset) (maxL := 1) (by decide +kernel) rfl (Nat.le_of_ble_eq_true rfl) (fun p e s m args below meth c Qm hret S hK hX => ?_)
  have hA : ∀ q, s.heap.size ≤ q → AA E ps s.heap.size q := fun _ h => Or.inr h
  have k1 := S.2.2.2.2 (.fieldLink RX1 12 "RhymeRoofs$Game" "rules" "LRhymeRoofs$Rules;") (by decide +kernel)
  have iX1 : ∀ w ∈ wsX10, w ∈ wsX1_reset := fun _ h => List.mem_cons_of_mem _ (List.mem_append_left _ (List.mem_append_left _ (List.mem_append_right _ h)))
  have k2 := S.2.2.2.2 (.fieldLink RX1 18 "RhymeRoofs$Game" "letters" "[I") (by decide +kernel)
  have k3 := S.2.2.2.2 (.fieldLink RX1 22 "RhymeRoofs$Game" "lettersOn" "[I") (by decide +kernel)
  have k4 := S.2.2.2.2 (.fieldLink RX1 25 "RhymeRoofs$Game" "wordsOn" "[I") (by decide +kernel)
  have k5 := S.2.2.2.2 (.fieldLink RX1 28 "RhymeRoofs$Game" "lastOn" "[J") (by decide +kernel)
  have k6 := S.2.2.2.2 (.fieldLink RX1 32 "RhymeRoofs$Game" "ownerOf" "[I") (by decide +kernel)
  have k7 := S.2.2.2.2 (.fieldLink RX1 35 "RhymeRoofs$Game" "hands" "[J") (by decide +kernel)
  have k8 := S.2.2.2.2 (.fieldLink RX1 38 "RhymeRoofs$Game" "handSize" "[I") (by decide +kernel)
  have k9 := S.2.2.2.2 (.fieldLink RX1 41 "RhymeRoofs$Game" "points" "[I") (by decide +kernel)
  have k10 := S.2.2.2.2 (.fieldLink RX1 62 "RhymeRoofs$Game" "turn" "I") (by decide +kernel)
  have k11 := S.2.2.2.2 (.fieldLink RX1 66 "RhymeRoofs$Game" "passes" "I") (by decide +kernel)
  have k12 := S.2.2.2.2 (.fieldLink RX1 69 "RhymeRoofs$Game" "over" "Z") (by decide +kernel)
  intro H locs ls hP hD hS hl
  unfold f_X1_reset at hf
  refine lv_aload_n S.1 S.2.1 dX1_reset_0 rfl (lv_at hl 0 rfl) ?_
  refine gfX1_0 S iX1 hK hP hB (hM 0 (by decide)) k1 dX1_reset_1 ?_
  refine R_cVv (As := []) (rest := []) S (c_X4_reset (hB := hB) (hM := hM)  hf) gX1_reset_X4_reset rfl yk_X4_reset ⟨⟨Nat.le_of_ble_eq_true rfl, Nat.le_of_ble_eq_true rfl⟩, rfl, rfl⟩ hK hP hD hS hX hA (hM 1 (by decide)) (cF_g E hB _ _ 1) rfl rfl hl.1 rfl (Nat.le_of_ble_eq_true rfl) ⟨Nat.zero_le _, Nat.zero_le _⟩ dX1_reset_4 (fun I_1 J_2 H locs hf hP hD hS => ?_)
  refine lv_aload_n S.1 S.2.1 dX1_reset_7 rfl (lv_at hl 0 rfl) ?_
  refine gfX1_1 S iX1 hK hP hB (hM 0 (by decide)) k2 dX1_reset_8 ?_
  refine lv_iconst (v := 0) S.1 S.2.1 dX1_reset_11 rfl ?_
  refine R_cSv (As := [.ref (eA E b 7), .int (0 : Int32)]) (rest := []) S (c_J7_fill_53178  (hm1 := (hM 7 (by decide))) (hc1 := (IAg7 E hB)) hf) gX1_reset_J7_fill_53178 rfl yk_J7_fill_53178 ⟨⟨Nat.le_of_ble_eq_true rfl, Nat.le_of_ble_eq_true rfl⟩, rfl, rfl⟩ hK hP hD hS hX hA rfl hl.1 rfl (Nat.le_of_ble_eq_true rfl) ⟨Nat.zero_le _, Nat.zero_le _⟩ dX1_reset_12 (fun I_3 J_4 H locs hf hP hD hS => ?_)
  refine lv_aload_n S.1 S.2.1 dX1_reset_15 rfl (lv_at hl 0 rfl) ?_
  refine gfX1_2 S iX1 hK hP hB (hM 0 (by decide)) k3 dX1_reset_16 ?_
  refine lv_iconst (v := 0) S.1 S.2.1 dX1_reset_19 rfl ?_
  refine R_cSv (As := [.ref (eA E b 8), .int (0 : Int32)]) (rest := []) S (c_J7_fill_53178  (hm1 := (hM 8 (by decide))) (hc1 := (IAg8 E hB)) hf) gX1_reset_J7_fill_53178 rfl yk_J7_fill_53178 ⟨⟨Nat.le_of_ble_eq_true rfl, Nat.le_of_ble_eq_true rfl⟩, rfl, rfl⟩ hK hP hD hS hX hA rfl hl.1 rfl (Nat.le_of_ble_eq_true rfl) ⟨Nat.zero_le _, Nat.zero_le _⟩ dX1_reset_20 (fun I_5 J_6 H locs hf hP hD hS => ?_)
  refine lv_aload_n S.1 S.2.1 dX1_reset_23 rfl (lv_at hl 0 rfl) ?_
  refine gfX1_3 S iX1 hK hP hB (hM 0 (by decide)) k4 dX1_reset_24 ?_
  refine lv_iconst (v := 0) S.1 S.2.1 dX1_reset_27 rfl ?_
  refine R_cSv (As := [.ref (eA E b 9), .int (0 : Int32)]) (rest := []) S (c_J7_fill_53178  (hm1 := (hM 9 (by decide))) (hc1 := (IAg9 E hB)) hf) gX1_reset_J7_fill_53178 rfl yk_J7_fill_53178 ⟨⟨Nat.le_of_ble_eq_true rfl, Nat.le_of_ble_eq_true rfl⟩, rfl, rfl⟩ hK hP hD hS hX hA rfl hl.1 rfl (Nat.le_of_ble_eq_true rfl) ⟨Nat.zero_le _, Nat.zero_le _⟩ dX1_reset_28 (fun I_7 J_8 H locs hf hP hD hS => ?_)
  refine lv_aload_n S.1 S.2.1 dX1_reset_31 rfl (lv_at hl 0 rfl) ?_
  refine gfX1_4 S iX1 hK hP hB (hM 0 (by decide)) k5 dX1_reset_32 ?_
  refine lv_lconst (v := 0) S.1 S.2.1 dX1_reset_35 rfl ?_
  refine R_cSv (As := [.ref (eA E b 10), .long (0 : Int64)]) (rest := []) S (c_J7_fill_d0a16  (hm1 := (hM 10 (by decide))) (hc1 := (LAg10 E hB)) hf) gX1_reset_J7_fill_d0a16 rfl yk_J7_fill_d0a16 ⟨⟨Nat.le_of_ble_eq_true rfl, Nat.le_of_ble_eq_true rfl⟩, rfl, rfl⟩ hK hP hD hS hX hA rfl hl.1 rfl (Nat.le_of_ble_eq_true rfl) ⟨Nat.zero_le _, Nat.zero_le _⟩ dX1_reset_36 (fun I_9 J_10 H locs hf hP hD hS => ?_)
  refine lv_aload_n S.1 S.2.1 dX1_reset_39 rfl (lv_at hl 0 rfl) ?_
  refine gfX1_5 S iX1 hK hP hB (hM 0 (by decide)) k6 dX1_reset_40 ?_
  refine lv_iconst (v := (-1)) S.1 S.2.1 dX1_reset_43 rfl ?_
  refine R_cSv (As := [.ref (eA E b 11), .int (-1 : Int32)]) (rest := []) S (c_J7_fill_53178  (hm1 := (hM 11 (by decide))) (hc1 := (IAg11 E hB)) hf) gX1_reset_J7_fill_53178 rfl yk_J7_fill_53178 ⟨⟨Nat.le_of_ble_eq_true rfl, Nat.le_of_ble_eq_true rfl⟩, rfl, rfl⟩ hK hP hD hS hX hA rfl hl.1 rfl (Nat.le_of_ble_eq_true rfl) ⟨Nat.zero_le _, Nat.zero_le _⟩ dX1_reset_44 (fun I_11 J_12 H locs hf hP hD hS => ?_)
  refine lv_aload_n S.1 S.2.1 dX1_reset_47 rfl (lv_at hl 0 rfl) ?_
  refine gfX1_6 S iX1 hK hP hB (hM 0 (by decide)) k7 dX1_reset_48 ?_
  refine lv_lconst (v := 0) S.1 S.2.1 dX1_reset_51 rfl ?_
  refine R_cSv (As := [.ref (eA E b 12), .long (0 : Int64)]) (rest := []) S (c_J7_fill_d0a16  (hm1 := (hM 12 (by decide))) (hc1 := (LAg12 E hB)) hf) gX1_reset_J7_fill_d0a16 rfl yk_J7_fill_d0a16 ⟨⟨Nat.le_of_ble_eq_true rfl, Nat.le_of_ble_eq_true rfl⟩, rfl, rfl⟩ hK hP hD hS hX hA rfl hl.1 rfl (Nat.le_of_ble_eq_true rfl) ⟨Nat.zero_le _, Nat.zero_le _⟩ dX1_reset_52 (fun I_13 J_14 H locs hf hP hD hS => ?_)
  refine lv_aload_n S.1 S.2.1 dX1_reset_55 rfl (lv_at hl 0 rfl) ?_
  refine gfX1_7 S iX1 hK hP hB (hM 0 (by decide)) k8 dX1_reset_56 ?_
  refine lv_iconst (v := 0) S.1 S.2.1 dX1_reset_59 rfl ?_
  refine R_cSv (As := [.ref (eA E b 13), .int (0 : Int32)]) (rest := []) S (c_J7_fill_53178  (hm1 := (hM 13 (by decide))) (hc1 := (IAg13 E hB)) hf) gX1_reset_J7_fill_53178 rfl yk_J7_fill_53178 ⟨⟨Nat.le_of_ble_eq_true rfl, Nat.le_of_ble_eq_true rfl⟩, rfl, rfl⟩ hK hP hD hS hX hA rfl hl.1 rfl (Nat.le_of_ble_eq_true rfl) ⟨Nat.zero_le _, Nat.zero_le _⟩ dX1_reset_60 (fun I_15 J_16 H locs hf hP hD hS => ?_)
  refine lv_aload_n S.1 S.2.1 dX1_reset_63 rfl (lv_at hl 0 rfl) ?_
  refine gfX1_8 S iX1 hK hP hB (hM 0 (by decide)) k9 dX1_reset_64 ?_
  refine lv_iconst (v := 0) S.1 S.2.1 dX1_reset_67 rfl ?_
  refine R_cSv (As := [.ref (eA E b 14), .int (0 : Int32)]) (rest := []) S (c_J7_fill_53178  (hm1 := (hM 14 (by decide))) (hc1 := (IAg14 E hB)) hf) gX1_reset_J7_fill_53178 rfl yk_J7_fill_53178 ⟨⟨Nat.le_of_ble_eq_true rfl, Nat.le_of_ble_eq_true rfl⟩, rfl, rfl⟩ hK hP hD hS hX hA rfl hl.1 rfl (Nat.le_of_ble_eq_true rfl) ⟨Nat.zero_le _, Nat.zero_le _⟩ dX1_reset_68 (fun I_17 J_18 H locs hf hP hD hS => ?_)
  refine lv_aload_n S.1 S.2.1 dX1_reset_71 rfl (lv_at hl 0 rfl) ?_
  refine lv_iconst (v := 0) S.1 S.2.1 dX1_reset_72 rfl ?_
  refine nm_o hf (fun I_19 eI_19 hf => ?_)
  refine pfX1_9 S iX1 hK hP hD hS hB (hM 0 (by decide)) k10 dX1_reset_73 eI_19 (fun H locs hP hD hS => ?_)
  refine lv_aload_n S.1 S.2.1 dX1_reset_76 rfl (lv_at hl 0 rfl) ?_
  refine lv_iconst (v := 0) S.1 S.2.1 dX1_reset_77 rfl ?_
  refine nm_o hf (fun I_20 eI_20 hf => ?_)
  refine pfX1_10 S iX1 hK hP hD hS hB (hM 0 (by decide)) k11 dX1_reset_78 eI_20 (fun H locs hP hD hS => ?_)
  refine lv_aload_n S.1 S.2.1 dX1_reset_81 rfl (lv_at hl 0 rfl) ?_
  refine lv_iconst (v := 0) S.1 S.2.1 dX1_reset_82 rfl ?_
  refine nm_o hf (fun I_21 eI_21 hf => ?_)
  refine pfX1_11 S iX1 hK hP hD hS hB (hM 0 (by decide)) k12 bo0 dX1_reset_83 eI_21 (fun H locs hP hD hS => ?_)
  exact hret hf hP hD hS dX1_reset_86
abbrev rmX1_rowNumber : Room := { frames := 1, cells := 0, slots := 0, locals := 21 }
theorem yk_X1_rowNumber : yOk yX1_rowNumber RX1 2 := by unfold yOk; decide +kernel
def f_X1_rowNumber (b : Nat) (x1 : Int32) (x2 : Int32) (I : MI) (J : MJ) (Q : Int32 → MI → MJ → Prop) : Prop :=
  ((x2 = (0 : Int32) → (vp_in x1 6 ∧ Q (I b 3 x1.toNatClampNeg) I J)) ∧ (¬ x2 = (0 : Int32) → ((x2 = (1 : Int32) → f_X1_freeTiles b x1 I J (fun (v_5 : Int32) (I_3 : MI) (J_4 : MJ) => Q v_5 I_3 J_4)) ∧ (¬ x2 = (1 : Int32) → ((x2 = (2 : Int32) → (vp_in x1 6 ∧ Q (I b 9 x1.toNatClampNeg) I J)) ∧ (¬ x2 = (2 : Int32) → (vp_in x1 6 ∧ Q (I b 11 x1.toNatClampNeg) I J)))))))
set_option maxRecDepth 100000 in
set_option maxHeartbeats 4000000 in
theorem c_X1_rowNumber {l : Launch} {E : EV} {ps : List (Nat × Nat)} {b : Nat} (hB : b < 11) (hM : ∀ r, r < 16 → (b, r) ∈ ps) {x1 : Int32} {x2 : Int32} {I : MI} {J : MJ} {Q : Int32 → MI → MJ → Prop} (hf : f_X1_rowNumber b x1 x2 I J Q) : KI l yX1_rowNumber wsX1_rowNumber rmX1_rowNumber E ps [.ref (eA E b 0), .int x1, .int x2] I J Q := by
  refine K_ofI (cc := cX1_rowNumber) (maxL := 3) (ty := .int) (by decide +kernel) rfl (Nat.le_of_ble_eq_true rfl) (fun p e s m args below meth c Qm hret S hK hX => ?_)
  have hA : ∀ q, s.heap.size ≤ q → AA E ps s.heap.size q := fun _ h => Or.inr h
  have k1 := S.2.2.2.2 (.fieldLink RX1 12 "RhymeRoofs$Game" "rules" "LRhymeRoofs$Rules;") (by decide +kernel)
  have iX1 : ∀ w ∈ wsX10, w ∈ wsX1_rowNumber := fun _ h => List.mem_cons_of_mem _ (List.mem_append_left _ (List.mem_append_right _ h))
  have k2 := S.2.2.2.2 (.fieldLink RX1 111 "RhymeRoofs$Rules" "tiles" "[I") (by decide +kernel)
  have iX4 : ∀ w ∈ wsX40, w ∈ wsX1_rowNumber := fun _ h => List.mem_cons_of_mem _ (List.mem_append_right _ h)
  have k3 := S.2.2.2.2 (.fieldLink RX1 25 "RhymeRoofs$Game" "wordsOn" "[I") (by decide +kernel)
  have k4 := S.2.2.2.2 (.fieldLink RX1 32 "RhymeRoofs$Game" "ownerOf" "[I") (by decide +kernel)
  intro H locs ls hP hD hS hl
  unfold f_X1_rowNumber at hf
  refine lv_iload_n S.1 S.2.1 dX1_rowNumber_0 rfl (lv_at hl 2 rfl) ?_
  refine Classical.byCases (p := x2 = (0 : Int32)) (fun h_1 => ?_) (fun h_1_0 => ?_)
  · have hf := hf.1 h_1
    refine R_swIn (tgt := 28) (off := 27) S.1 S.2.1 dX1_rowNumber_1 h_1 (by decide) (by decide) ?_
    refine lv_aload_n S.1 S.2.1 dX1_rowNumber_28 rfl (lv_at hl 0 rfl) ?_
    refine gfX1_0 S iX1 hK hP hB (hM 0 (by decide)) k1 dX1_rowNumber_29 ?_
    refine gfX4_0 S iX4 hK hP hB (hM 1 (by decide)) k2 dX1_rowNumber_32 ?_
    refine lv_iload_n S.1 S.2.1 dX1_rowNumber_35 rfl (lv_at hl 1 rfl) ?_
    obtain ⟨h_2, hf⟩ := hf
    refine R_iald S.1 S.2.1 hK hP (hM 3 (by decide)) (IAg3 E hB) h_2 dX1_rowNumber_36 ?_
    exact hret hf rfl hP hD hS dX1_rowNumber_37
  have hf := hf.2 h_1_0
  refine Classical.byCases (p := x2 = (1 : Int32)) (fun h_1 => ?_) (fun h_1_1 => ?_)
  · have hf := hf.1 h_1
    refine R_swIn (tgt := 38) (off := 37) S.1 S.2.1 dX1_rowNumber_1 h_1 (by decide) (by decide) ?_
    refine lv_aload_n S.1 S.2.1 dX1_rowNumber_38 rfl (lv_at hl 0 rfl) ?_
    refine lv_iload_n S.1 S.2.1 dX1_rowNumber_39 rfl (lv_at hl 1 rfl) ?_
    refine R_cVi (As := [.int x1]) (rest := []) S (c_X1_freeTiles (hB := hB) (hM := hM)  hf) gX1_rowNumber_X1_freeTiles rfl yk_X1_freeTiles ⟨⟨Nat.le_of_ble_eq_true rfl, Nat.le_of_ble_eq_true rfl⟩, rfl, rfl⟩ hK hP hD hS hX hA (hM 0 (by decide)) (cF_g E hB _ _ 0) rfl rfl hl.1 rfl (Nat.le_of_ble_eq_true rfl) ⟨Nat.zero_le _, Nat.zero_le _⟩ dX1_rowNumber_40 (fun v_5 I_3 J_4 H locs hf hP hD hS => ?_)
    exact hret hf rfl hP hD hS dX1_rowNumber_43
  have hf := hf.2 h_1_1
  refine Classical.byCases (p := x2 = (2 : Int32)) (fun h_1 => ?_) (fun h_1_2 => ?_)
  · have hf := hf.1 h_1
    refine R_swIn (tgt := 44) (off := 43) S.1 S.2.1 dX1_rowNumber_1 h_1 (by decide) (by decide) ?_
    refine lv_aload_n S.1 S.2.1 dX1_rowNumber_44 rfl (lv_at hl 0 rfl) ?_
    refine gfX1_3 S iX1 hK hP hB (hM 0 (by decide)) k3 dX1_rowNumber_45 ?_
    refine lv_iload_n S.1 S.2.1 dX1_rowNumber_48 rfl (lv_at hl 1 rfl) ?_
    obtain ⟨h_6, hf⟩ := hf
    refine R_iald S.1 S.2.1 hK hP (hM 9 (by decide)) (IAg9 E hB) h_6 dX1_rowNumber_49 ?_
    exact hret hf rfl hP hD hS dX1_rowNumber_50
  have hf := hf.2 h_1_2
  refine lv_tableOut (tgt := 51) S.1 S.2.1 dX1_rowNumber_1 (by have q0 := ne_I (z := 0) h_1_0 (by decide); have q1 := ne_I (z := 1) h_1_1 (by decide); have q2 := ne_I (z := 2) h_1_2 (by decide); omega) (by decide) ?_
  refine lv_aload_n S.1 S.2.1 dX1_rowNumber_51 rfl (lv_at hl 0 rfl) ?_
  refine gfX1_5 S iX1 hK hP hB (hM 0 (by decide)) k4 dX1_rowNumber_52 ?_
  refine lv_iload_n S.1 S.2.1 dX1_rowNumber_55 rfl (lv_at hl 1 rfl) ?_
  obtain ⟨h_7, hf⟩ := hf
  refine R_iald S.1 S.2.1 hK hP (hM 11 (by decide)) (IAg11 E hB) h_7 dX1_rowNumber_56 ?_
  exact hret hf rfl hP hD hS dX1_rowNumber_57
abbrev rmX1_playerNumber : Room := { frames := 2, cells := 0, slots := 0, locals := 47 }
theorem yk_X1_playerNumber : yOk yX1_playerNumber RX1 2 := by unfold yOk; decide +kernel
def f_X1_playerNumber (b : Nat) (x1 : Int32) (x2 : Int32) (I : MI) (J : MJ) (Q : Int32 → MI → MJ → Prop) : Prop :=
  ((x2 = (0 : Int32) → (vp_in x1 4 ∧ Q (I b 13 x1.toNatClampNeg) I J)) ∧ (¬ x2 = (0 : Int32) → ((x2 = (1 : Int32) → f_X1_lettersOfHand b x1 I J (fun (v_5 : Int32) (I_3 : MI) (J_4 : MJ) => Q v_5 I_3 J_4)) ∧ (¬ x2 = (1 : Int32) → ((x2 = (2 : Int32) → (vp_in x1 4 ∧ Q (I b 14 x1.toNatClampNeg) I J)) ∧ (¬ x2 = (2 : Int32) → f_X1_rowsOwnedBy b x1 I J (fun (v_9 : Int32) (I_7 : MI) (J_8 : MJ) => Q v_9 I_7 J_8)))))))
set_option maxRecDepth 100000 in
set_option maxHeartbeats 4000000 in
theorem c_X1_playerNumber {l : Launch} {E : EV} {ps : List (Nat × Nat)} {b : Nat} (hB : b < 11) (hM : ∀ r, r < 16 → (b, r) ∈ ps) {x1 : Int32} {x2 : Int32} {I : MI} {J : MJ} {Q : Int32 → MI → MJ → Prop} (hf : f_X1_playerNumber b x1 x2 I J Q) : KI l yX1_playerNumber wsX1_playerNumber rmX1_playerNumber E ps [.ref (eA E b 0), .int x1, .int x2] I J Q := by
  refine K_ofI (cc := cX1_playerNumber) (maxL := 3) (ty := .int) (by decide +kernel) rfl (Nat.le_of_ble_eq_true rfl) (fun p e s m args below meth c Qm hret S hK hX => ?_)
  have hA : ∀ q, s.heap.size ≤ q → AA E ps s.heap.size q := fun _ h => Or.inr h
  have k1 := S.2.2.2.2 (.fieldLink RX1 38 "RhymeRoofs$Game" "handSize" "[I") (by decide +kernel)
  have iX1 : ∀ w ∈ wsX10, w ∈ wsX1_playerNumber := fun _ h => List.mem_cons_of_mem _ (List.mem_append_left _ (List.mem_append_right _ h))
  have k2 := S.2.2.2.2 (.fieldLink RX1 41 "RhymeRoofs$Game" "points" "[I") (by decide +kernel)
  intro H locs ls hP hD hS hl
  unfold f_X1_playerNumber at hf
  refine lv_iload_n S.1 S.2.1 dX1_playerNumber_0 rfl (lv_at hl 2 rfl) ?_
  refine Classical.byCases (p := x2 = (0 : Int32)) (fun h_1 => ?_) (fun h_1_0 => ?_)
  · have hf := hf.1 h_1
    refine R_swIn (tgt := 28) (off := 27) S.1 S.2.1 dX1_playerNumber_1 h_1 (by decide) (by decide) ?_
    refine lv_aload_n S.1 S.2.1 dX1_playerNumber_28 rfl (lv_at hl 0 rfl) ?_
    refine gfX1_7 S iX1 hK hP hB (hM 0 (by decide)) k1 dX1_playerNumber_29 ?_
    refine lv_iload_n S.1 S.2.1 dX1_playerNumber_32 rfl (lv_at hl 1 rfl) ?_
    obtain ⟨h_2, hf⟩ := hf
    refine R_iald S.1 S.2.1 hK hP (hM 13 (by decide)) (IAg13 E hB) h_2 dX1_playerNumber_33 ?_
    exact hret hf rfl hP hD hS dX1_playerNumber_34
  have hf := hf.2 h_1_0
  refine Classical.byCases (p := x2 = (1 : Int32)) (fun h_1 => ?_) (fun h_1_1 => ?_)
  · have hf := hf.1 h_1
    refine R_swIn (tgt := 35) (off := 34) S.1 S.2.1 dX1_playerNumber_1 h_1 (by decide) (by decide) ?_
    refine lv_aload_n S.1 S.2.1 dX1_playerNumber_35 rfl (lv_at hl 0 rfl) ?_
    refine lv_iload_n S.1 S.2.1 dX1_playerNumber_36 rfl (lv_at hl 1 rfl) ?_
    refine R_cVi (As := [.int x1]) (rest := []) S (c_X1_lettersOfHand (hB := hB) (hM := hM)  hf) gX1_playerNumber_X1_lettersOfHand rfl yk_X1_lettersOfHand ⟨⟨Nat.le_of_ble_eq_true rfl, Nat.le_of_ble_eq_true rfl⟩, rfl, rfl⟩ hK hP hD hS hX hA (hM 0 (by decide)) (cF_g E hB _ _ 0) rfl rfl hl.1 rfl (Nat.le_of_ble_eq_true rfl) ⟨Nat.zero_le _, Nat.zero_le _⟩ dX1_playerNumber_37 (fun v_5 I_3 J_4 H locs hf hP hD hS => ?_)
    exact hret hf rfl hP hD hS dX1_playerNumber_40
  have hf := hf.2 h_1_1
  refine Classical.byCases (p := x2 = (2 : Int32)) (fun h_1 => ?_) (fun h_1_2 => ?_)
  · have hf := hf.1 h_1
    refine R_swIn (tgt := 41) (off := 40) S.1 S.2.1 dX1_playerNumber_1 h_1 (by decide) (by decide) ?_
    refine lv_aload_n S.1 S.2.1 dX1_playerNumber_41 rfl (lv_at hl 0 rfl) ?_
    refine gfX1_8 S iX1 hK hP hB (hM 0 (by decide)) k2 dX1_playerNumber_42 ?_
    refine lv_iload_n S.1 S.2.1 dX1_playerNumber_45 rfl (lv_at hl 1 rfl) ?_
    obtain ⟨h_6, hf⟩ := hf
    refine R_iald S.1 S.2.1 hK hP (hM 14 (by decide)) (IAg14 E hB) h_6 dX1_playerNumber_46 ?_
    exact hret hf rfl hP hD hS dX1_playerNumber_47
  have hf := hf.2 h_1_2
  refine lv_tableOut (tgt := 48) S.1 S.2.1 dX1_playerNumber_1 (by have q0 := ne_I (z := 0) h_1_0 (by decide); have q1 := ne_I (z := 1) h_1_1 (by decide); have q2 := ne_I (z := 2) h_1_2 (by decide); omega) (by decide) ?_
  refine lv_aload_n S.1 S.2.1 dX1_playerNumber_48 rfl (lv_at hl 0 rfl) ?_
  refine lv_iload_n S.1 S.2.1 dX1_playerNumber_49 rfl (lv_at hl 1 rfl) ?_
  refine R_cVi (As := [.int x1]) (rest := []) S (c_X1_rowsOwnedBy (hB := hB) (hM := hM)  hf) gX1_playerNumber_X1_rowsOwnedBy rfl yk_X1_rowsOwnedBy ⟨⟨Nat.le_of_ble_eq_true rfl, Nat.le_of_ble_eq_true rfl⟩, rfl, rfl⟩ hK hP hD hS hX hA (hM 0 (by decide)) (cF_g E hB _ _ 0) rfl rfl hl.1 rfl (Nat.le_of_ble_eq_true rfl) ⟨Nat.zero_le _, Nat.zero_le _⟩ dX1_playerNumber_50 (fun v_9 I_7 J_8 H locs hf hP hD hS => ?_)
  exact hret hf rfl hP hD hS dX1_playerNumber_53
abbrev rmX1_obstacleNow : Room := { frames := 2, cells := 0, slots := 0, locals := 52 }
theorem yk_X1_obstacleNow : yOk yX1_obstacleNow RX1 2 := by unfold yOk; decide +kernel
def f_X1_obstacleNow (b : Nat) (x1 : Int32) (x2 : Int32) (I : MI) (J : MJ) (Q : Int32 → MI → MJ → Prop) : Prop :=
  (((I b 0 11) = (0 : Int32) → f_X1_wordOf b (I b 0 9) x1 I J (fun (v_4 : Int64) (I_2 : MI) (J_3 : MJ) => f_X1_obstacle b v_4 x2 I_2 J_3 (fun (v_7 : Int32) (I_5 : MI) (J_6 : MJ) => Q v_7 I_5 J_6))) ∧ (¬ (I b 0 11) = (0 : Int32) → Q (1 : Int32) I J))
set_option maxRecDepth 100000 in
set_option maxHeartbeats 4000000 in
theorem c_X1_obstacleNow {l : Launch} {E : EV} {ps : List (Nat × Nat)} {b : Nat} (hB : b < 11) (hM : ∀ r, r < 16 → (b, r) ∈ ps) {x1 : Int32} {x2 : Int32} {I : MI} {J : MJ} {Q : Int32 → MI → MJ → Prop} (hf : f_X1_obstacleNow b x1 x2 I J Q) : KI l yX1_obstacleNow wsX1_obstacleNow rmX1_obstacleNow E ps [.ref (eA E b 0), .int x1, .int x2] I J Q := by
  refine K_ofI (cc := cX1_obstacleNow) (maxL := 3) (ty := .int) (by decide +kernel) rfl (Nat.le_of_ble_eq_true rfl) (fun p e s m args below meth c Qm hret S hK hX => ?_)
  have hA : ∀ q, s.heap.size ≤ q → AA E ps s.heap.size q := fun _ h => Or.inr h
  have k1 := S.2.2.2.2 (.fieldLink RX1 69 "RhymeRoofs$Game" "over" "Z") (by decide +kernel)
  have iX1 : ∀ w ∈ wsX10, w ∈ wsX1_obstacleNow := fun _ h => List.mem_cons_of_mem _ (List.mem_append_left _ (List.mem_append_right _ h))
  have k2 := S.2.2.2.2 (.fieldLink RX1 62 "RhymeRoofs$Game" "turn" "I") (by decide +kernel)
  intro H locs ls hP hD hS hl
  unfold f_X1_obstacleNow at hf
  refine lv_aload_n S.1 S.2.1 dX1_obstacleNow_0 rfl (lv_at hl 0 rfl) ?_
  refine gfX1_11 S iX1 hK hP hB (hM 0 (by decide)) k1 dX1_obstacleNow_1 ?_
  refine lv_if_eq (tgt := 11) S.1 S.2.1 dX1_obstacleNow_4 (by decide) (fun h_1 => ?_) (fun h_1 => ?_)
  · have hf := hf.1 h_1
    refine lv_aload_n S.1 S.2.1 dX1_obstacleNow_11 rfl (lv_at hl 0 rfl) ?_
    refine lv_aload_n S.1 S.2.1 dX1_obstacleNow_12 rfl (lv_at hl 0 rfl) ?_
    refine lv_aload_n S.1 S.2.1 dX1_obstacleNow_13 rfl (lv_at hl 0 rfl) ?_
    refine gfX1_9 S iX1 hK hP hB (hM 0 (by decide)) k2 dX1_obstacleNow_14 ?_
    refine lv_iload_n S.1 S.2.1 dX1_obstacleNow_17 rfl (lv_at hl 1 rfl) ?_
    refine R_cVl (As := [.int (I b 0 9), .int x1]) (rest := [.ref (eA E b 0)]) S (c_X1_wordOf (hB := hB) (hM := hM)  hf) gX1_obstacleNow_X1_wordOf rfl yk_X1_wordOf ⟨⟨Nat.le_of_ble_eq_true rfl, Nat.le_of_ble_eq_true rfl⟩, rfl, rfl⟩ hK hP hD hS hX hA (hM 0 (by decide)) (cF_g E hB _ _ 0) rfl rfl hl.1 rfl (Nat.le_of_ble_eq_true rfl) ⟨Nat.zero_le _, Nat.zero_le _⟩ dX1_obstacleNow_18 (fun v_4 I_2 J_3 H locs hf hP hD hS => ?_)
    refine lv_iload_n S.1 S.2.1 dX1_obstacleNow_21 rfl (lv_at hl 2 rfl) ?_
    refine R_cVi (As := [.long v_4, .int x2]) (rest := []) S (c_X1_obstacle (hB := hB) (hM := hM)  hf) gX1_obstacleNow_X1_obstacle rfl yk_X1_obstacle ⟨⟨Nat.le_of_ble_eq_true rfl, Nat.le_of_ble_eq_true rfl⟩, rfl, rfl⟩ hK hP hD hS hX hA (hM 0 (by decide)) (cF_g E hB _ _ 0) rfl rfl hl.1 rfl (Nat.le_of_ble_eq_true rfl) ⟨Nat.zero_le _, Nat.zero_le _⟩ dX1_obstacleNow_22 (fun v_7 I_5 J_6 H locs hf hP hD hS => ?_)
    exact hret hf rfl hP hD hS dX1_obstacleNow_25
  · have hf := hf.2 h_1
    refine lv_iconst (v := 1) S.1 S.2.1 dX1_obstacleNow_7 rfl ?_
    refine lv_goto (tgt := 25) S.1 S.2.1 dX1_obstacleNow_8 (by decide) ?_
    exact hret hf rfl hP hD hS dX1_obstacleNow_25
abbrev rmX1_rankOf : Room := { frames := 2, cells := 0, slots := 0, locals := 54 }
theorem yk_X1_rankOf : yOk yX1_rankOf RX1 2 := by unfold yOk; decide +kernel
def f_X1_rankOf_J108 (b : Nat) (Q : Int32 → MI → MJ → Prop) (s_42 : Int32) (s_43 : Int32) (I_44 : MI) (J_45 : MJ) : Prop :=
  (vp_in s_43 6 ∧ ∀ I_47 : MI, I_47 = sI I_44 b 15 s_43.toNatClampNeg s_42 → f_X3_indexOf (-6 : Int32) I_47 J_45 (fun (v_50 : Int32) (I_48 : MI) (J_49 : MJ) => (vp_in (I_48 b 0 9) 4 ∧ (vp_in v_50 6 ∧ ∀ I_53 : MI, I_53 = sI I_48 b 15 v_50.toNatClampNeg ((I_48 b 13 (I_48 b 0 9).toNatClampNeg) - (1 : Int32)) → f_X3_value b I_53 J_49 (fun (v_56 : Int32) (I_54 : MI) (J_55 : MJ) => Q v_56 I_54 J_55)))))
def f_X1_rankOf (b : Nat) (x1 : Int32) (x2 : Int32) (I : MI) (J : MJ) (Q : Int32 → MI → MJ → Prop) : Prop :=
  f_X1_wordOf b (I b 0 9) x1 I J (fun (v_3 : Int64) (I_1 : MI) (J_2 : MJ) => f_X6_length v_3 I_1 J_2 (fun (v_6 : Int32) (I_4 : MI) (J_5 : MJ) => f_X1_freeTiles b x2 I_4 J_5 (fun (v_9 : Int32) (I_7 : MI) (J_8 : MJ) => ∀ x6_10 : Int32, x6_10 = (v_9 - v_6) → f_X3_indexOf (-1 : Int32) I_7 J_8 (fun (v_13 : Int32) (I_11 : MI) (J_12 : MJ) => f_X1_pointsFor b v_3 x2 I_11 J_12 (fun (v_16 : Int32) (I_14 : MI) (J_15 : MJ) => (vp_in v_13 6 ∧ ∀ I_18 : MI, I_18 = sI I_14 b 15 v_13.toNatClampNeg v_16 → f_X3_indexOf (-2 : Int32) I_18 J_15 (fun (v_21 : Int32) (I_19 : MI) (J_20 : MJ) => (vp_in v_21 6 ∧ ∀ I_23 : MI, I_23 = sI I_19 b 15 v_21.toNatClampNeg v_6 → f_X3_indexOf (-3 : Int32) I_23 J_20 (fun (v_26 : Int32) (I_24 : MI) (J_25 : MJ) => (vp_in x2 6 ∧ f_X4_rhymeOf b v_3 (J_25 b 10 x2.toNatClampNeg) I_24 J_25 (fun (v_30 : Int32) (I_28 : MI) (J_29 : MJ) => (vp_in v_26 6 ∧ ∀ I_32 : MI, I_32 = sI I_28 b 15 v_26.toNatClampNeg v_30 → f_X3_indexOf (-4 : Int32) I_32 J_29 (fun (v_35 : Int32) (I_33 : MI) (J_34 : MJ) => (vp_in v_35 6 ∧ ∀ I_37 : MI, I_37 = sI I_33 b 15 v_35.toNatClampNeg x6_10 → f_X3_indexOf (-5 : Int32) I_37 J_34 (fun (v_40 : Int32) (I_38 : MI) (J_39 : MJ) => ((x6_10 = (0 : Int32) → f_X1_rankOf_J108 b Q (1 : Int32) v_40 I_38 J_39) ∧ (¬ x6_10 = (0 : Int32) → f_X1_rankOf_J108 b Q (0 : Int32) v_40 I_38 J_39)))))))))))))))))
set_option maxRecDepth 100000 in
set_option maxHeartbeats 4000000 in
theorem c_X1_rankOf {l : Launch} {E : EV} {ps : List (Nat × Nat)} {b : Nat} (hB : b < 11) (hM : ∀ r, r < 16 → (b, r) ∈ ps) {x1 : Int32} {x2 : Int32} {I : MI} {J : MJ} {Q : Int32 → MI → MJ → Prop} (hf : f_X1_rankOf b x1 x2 I J Q) : KI l yX1_rankOf wsX1_rankOf rmX1_rankOf E ps [.ref (eA E b 0), .int x1, .int x2] I J Q := by
  refine K_ofI (cc := cX1_rankOf) (maxL := 7) (ty := .int) (by decide +kernel) rfl (Nat.le_of_ble_eq_true rfl) (fun p e s m args below meth c Qm hret S hK hX => ?_)
  have hA : ∀ q, s.heap.size ≤ q → AA E ps s.heap.size q := fun _ h => Or.inr h
  have k1 := S.2.2.2.2 (.fieldLink RX1 62 "RhymeRoofs$Game" "turn" "I") (by decide +kernel)
  have iX1 : ∀ w ∈ wsX10, w ∈ wsX1_rankOf := fun _ h => List.mem_cons_of_mem _ (List.mem_append_left _ (List.mem_append_left _ (List.mem_append_right _ h)))
  have k2 := S.2.2.2.2 (.fieldLink RX1 46 "RhymeRoofs$Game" "facts" "[I") (by decide +kernel)
  have k3 := S.2.2.2.2 (.fieldLink RX1 12 "RhymeRoofs$Game" "rules" "LRhymeRoofs$Rules;") (by decide +kernel)
  have k4 := S.2.2.2.2 (.fieldLink RX1 28 "RhymeRoofs$Game" "lastOn" "[J") (by decide +kernel)
  have k5 := S.2.2.2.2 (.fieldLink RX1 38 "RhymeRoofs$Game" "handSize" "[I") (by decide +kernel)
  have k6 := S.2.2.2.2 (.fieldLink RX1 152 "RhymeRoofs$Rules" "rank" "LRhymeRoofs$Rank;") (by decide +kernel)
  have iX4 : ∀ w ∈ wsX40, w ∈ wsX1_rankOf := fun _ h => List.mem_cons_of_mem _ (List.mem_append_left _ (List.mem_append_right _ h))
  have jn108 : ∀ (s_42 : Int32) (s_43 : Int32) (I_44 : MI) (J_45 : MJ), f_X1_rankOf_J108 b Q s_42 s_43 I_44 J_45 → Wj p l e (rmX1_rankOf) s m args below meth c Qm E ps 7 I_44 J_45 108 [(0, .ref (eA E b 0))] [.int s_42, .int s_43, .ref (eA E b 15)] := by
    intro s_42 s_43 I_44 J_45 hf H locs ls hP hD hS hl
    unfold f_X1_rankOf_J108 at hf
    obtain ⟨h_46, hf⟩ := hf
    refine nm_o hf (fun I_47 eI_47 hf => ?_)
    refine R_iast S.1 S.2.1 hK hP hD hS (hM 15 (by decide)) (IAg15 E hB) h_46 dX1_rankOf_108 eI_47 (fun H locs hP hD hS => ?_)
    refine lv_aload_n S.1 S.2.1 dX1_rankOf_109 rfl (lv_at hl 0 rfl) ?_
    refine gfX1_12 S iX1 hK hP hB (hM 0 (by decide)) k2 dX1_rankOf_110 ?_
    refine lv_bipush (v := (-6)) S.1 S.2.1 dX1_rankOf_113 rfl ?_
    refine R_cSi (As := [.int (-6 : Int32)]) (rest := [.ref (eA E b 15)]) S (c_X3_indexOf   hf) gX1_rankOf_X3_indexOf rfl yk_X3_indexOf ⟨⟨Nat.le_of_ble_eq_true rfl, Nat.le_of_ble_eq_true rfl⟩, rfl, rfl⟩ hK hP hD hS hX hA rfl hl.1 rfl (Nat.le_of_ble_eq_true rfl) ⟨Nat.zero_le _, Nat.zero_le _⟩ dX1_rankOf_115 (fun v_50 I_48 J_49 H locs hf hP hD hS => ?_)
    refine lv_aload_n S.1 S.2.1 dX1_rankOf_118 rfl (lv_at hl 0 rfl) ?_
    refine gfX1_7 S iX1 hK hP hB (hM 0 (by decide)) k5 dX1_rankOf_119 ?_
    refine lv_aload_n S.1 S.2.1 dX1_rankOf_122 rfl (lv_at hl 0 rfl) ?_
    refine gfX1_9 S iX1 hK hP hB (hM 0 (by decide)) k1 dX1_rankOf_123 ?_
    obtain ⟨h_51, hf⟩ := hf
    refine R_iald S.1 S.2.1 hK hP (hM 13 (by decide)) (IAg13 E hB) h_51 dX1_rankOf_126 ?_
    refine lv_iconst (v := 1) S.1 S.2.1 dX1_rankOf_127 rfl ?_
    refine lv_isub S.1 S.2.1 dX1_rankOf_128 ?_
    obtain ⟨h_52, hf⟩ := hf
    refine nm_o hf (fun I_53 eI_53 hf => ?_)
    refine R_iast S.1 S.2.1 hK hP hD hS (hM 15 (by decide)) (IAg15 E hB) h_52 dX1_rankOf_129 eI_53 (fun H locs hP hD hS => ?_)
    refine lv_aload_n S.1 S.2.1 dX1_rankOf_130 rfl (lv_at hl 0 rfl) ?_
    refine gfX1_0 S iX1 hK hP hB (hM 0 (by decide)) k3 dX1_rankOf_131 ?_
    refine gfX4_2 S iX4 hK hP hB (hM 1 (by decide)) k6 dX1_rankOf_134 ?_
    refine lv_aload_n S.1 S.2.1 dX1_rankOf_137 rfl (lv_at hl 0 rfl) ?_
    refine gfX1_12 S iX1 hK hP hB (hM 0 (by decide)) k2 dX1_rankOf_138 ?_
    refine R_cVi (As := [.ref (eA E b 15)]) (rest := []) S (c_X3_value (hB := hB) (hM := hM)  hf) gX1_rankOf_X3_value rfl yk_X3_value ⟨⟨Nat.le_of_ble_eq_true rfl, Nat.le_of_ble_eq_true rfl⟩, rfl, rfl⟩ hK hP hD hS hX hA (hM 2 (by decide)) (cF_g E hB _ _ 2) rfl rfl hl.1 rfl (Nat.le_of_ble_eq_true rfl) ⟨Nat.zero_le _, Nat.zero_le _⟩ dX1_rankOf_141 (fun v_56 I_54 J_55 H locs hf hP hD hS => ?_)
    exact hret hf rfl hP hD hS dX1_rankOf_144
  intro H locs ls hP hD hS hl
  unfold f_X1_rankOf at hf
  refine lv_aload_n S.1 S.2.1 dX1_rankOf_0 rfl (lv_at hl 0 rfl) ?_
  refine lv_aload_n S.1 S.2.1 dX1_rankOf_1 rfl (lv_at hl 0 rfl) ?_
  refine gfX1_9 S iX1 hK hP hB (hM 0 (by decide)) k1 dX1_rankOf_2 ?_
  refine lv_iload_n S.1 S.2.1 dX1_rankOf_5 rfl (lv_at hl 1 rfl) ?_
  refine R_cVl (As := [.int (I b 0 9), .int x1]) (rest := []) S (c_X1_wordOf (hB := hB) (hM := hM)  hf) gX1_rankOf_X1_wordOf rfl yk_X1_wordOf ⟨⟨Nat.le_of_ble_eq_true rfl, Nat.le_of_ble_eq_true rfl⟩, rfl, rfl⟩ hK hP hD hS hX hA (hM 0 (by decide)) (cF_g E hB _ _ 0) rfl rfl hl.1 rfl (Nat.le_of_ble_eq_true rfl) ⟨Nat.zero_le _, Nat.zero_le _⟩ dX1_rankOf_6 (fun v_3 I_1 J_2 H locs hf hP hD hS => ?_)
  refine lv_lstore_n (lv' := [(3, .long v_3), (0, .ref (eA E b 0)), (1, .int x1), (2, .int x2)]) S.1 S.2.1 dX1_rankOf_9 rfl hl (by decide) rfl (fun ls hl => ?_)
  refine lv_lload_n S.1 S.2.1 dX1_rankOf_10 rfl (lv_at hl 0 rfl) ?_
  refine R_cSi (As := [.long v_3]) (rest := []) S (c_X6_length   hf) gX1_rankOf_X6_length rfl yk_X6_length ⟨⟨Nat.le_of_ble_eq_true rfl, Nat.le_of_ble_eq_true rfl⟩, rfl, rfl⟩ hK hP hD hS hX hA rfl hl.1 rfl (Nat.le_of_ble_eq_true rfl) ⟨Nat.zero_le _, Nat.zero_le _⟩ dX1_rankOf_11 (fun v_6 I_4 J_5 H locs hf hP hD hS => ?_)
  refine lv_istore (lv' := [(5, .int v_6), (3, .long v_3), (0, .ref (eA E b 0)), (1, .int x1), (2, .int x2)]) S.1 S.2.1 dX1_rankOf_14 hl (by decide) rfl (fun ls hl => ?_)
  refine lv_aload_n S.1 S.2.1 dX1_rankOf_16 rfl (lv_at hl 2 rfl) ?_
  refine lv_iload_n S.1 S.2.1 dX1_rankOf_17 rfl (lv_at hl 4 rfl) ?_
  refine R_cVi (As := [.int x2]) (rest := []) S (c_X1_freeTiles (hB := hB) (hM := hM)  hf) gX1_rankOf_X1_freeTiles rfl yk_X1_freeTiles ⟨⟨Nat.le_of_ble_eq_true rfl, Nat.le_of_ble_eq_true rfl⟩, rfl, rfl⟩ hK hP hD hS hX hA (hM 0 (by decide)) (cF_g E hB _ _ 0) rfl rfl hl.1 rfl (Nat.le_of_ble_eq_true rfl) ⟨Nat.zero_le _, Nat.zero_le _⟩ dX1_rankOf_18 (fun v_9 I_7 J_8 H locs hf hP hD hS => ?_)
  refine lv_iload S.1 S.2.1 dX1_rankOf_21 (lv_at hl 0 rfl) ?_
  refine lv_isub S.1 S.2.1 dX1_rankOf_23 ?_
  refine lv_topi (fun x6_10 ex6_10 => ?_)
  have hf := hf x6_10 ex6_10
  refine lv_istore (lv' := [(6, .int x6_10), (5, .int v_6), (3, .long v_3), (0, .ref (eA E b 0)), (1, .int x1), (2, .int x2)]) S.1 S.2.1 dX1_rankOf_24 hl (by decide) rfl (fun ls hl => ?_)
  refine lv_aload_n S.1 S.2.1 dX1_rankOf_26 rfl (lv_at hl 3 rfl) ?_
  refine gfX1_12 S iX1 hK hP hB (hM 0 (by decide)) k2 dX1_rankOf_27 ?_
  refine lv_iconst (v := (-1)) S.1 S.2.1 dX1_rankOf_30 rfl ?_
  refine R_cSi (As := [.int (-1 : Int32)]) (rest := [.ref (eA E b 15)]) S (c_X3_indexOf   hf) gX1_rankOf_X3_indexOf rfl yk_X3_indexOf ⟨⟨Nat.le_of_ble_eq_true rfl, Nat.le_of_ble_eq_true rfl⟩, rfl, rfl⟩ hK hP hD hS hX hA rfl hl.1 rfl (Nat.le_of_ble_eq_true rfl) ⟨Nat.zero_le _, Nat.zero_le _⟩ dX1_rankOf_31 (fun v_13 I_11 J_12 H locs hf hP hD hS => ?_)
  refine lv_aload_n S.1 S.2.1 dX1_rankOf_34 rfl (lv_at hl 3 rfl) ?_
  refine lv_lload_n S.1 S.2.1 dX1_rankOf_35 rfl (lv_at hl 2 rfl) ?_
  refine lv_iload_n S.1 S.2.1 dX1_rankOf_36 rfl (lv_at hl 5 rfl) ?_
  refine R_cVi (As := [.long v_3, .int x2]) (rest := [.int v_13, .ref (eA E b 15)]) S (c_X1_pointsFor (hB := hB) (hM := hM)  hf) gX1_rankOf_X1_pointsFor rfl yk_X1_pointsFor ⟨⟨Nat.le_of_ble_eq_true rfl, Nat.le_of_ble_eq_true rfl⟩, rfl, rfl⟩ hK hP hD hS hX hA (hM 0 (by decide)) (cF_g E hB _ _ 0) rfl rfl hl.1 rfl (Nat.le_of_ble_eq_true rfl) ⟨Nat.zero_le _, Nat.zero_le _⟩ dX1_rankOf_37 (fun v_16 I_14 J_15 H locs hf hP hD hS => ?_)
  obtain ⟨h_17, hf⟩ := hf
  refine nm_o hf (fun I_18 eI_18 hf => ?_)
  refine R_iast S.1 S.2.1 hK hP hD hS (hM 15 (by decide)) (IAg15 E hB) h_17 dX1_rankOf_40 eI_18 (fun H locs hP hD hS => ?_)
  refine lv_aload_n S.1 S.2.1 dX1_rankOf_41 rfl (lv_at hl 3 rfl) ?_
  refine gfX1_12 S iX1 hK hP hB (hM 0 (by decide)) k2 dX1_rankOf_42 ?_
  refine lv_bipush (v := (-2)) S.1 S.2.1 dX1_rankOf_45 rfl ?_
  refine R_cSi (As := [.int (-2 : Int32)]) (rest := [.ref (eA E b 15)]) S (c_X3_indexOf   hf) gX1_rankOf_X3_indexOf rfl yk_X3_indexOf ⟨⟨Nat.le_of_ble_eq_true rfl, Nat.le_of_ble_eq_true rfl⟩, rfl, rfl⟩ hK hP hD hS hX hA rfl hl.1 rfl (Nat.le_of_ble_eq_true rfl) ⟨Nat.zero_le _, Nat.zero_le _⟩ dX1_rankOf_47 (fun v_21 I_19 J_20 H locs hf hP hD hS => ?_)
  refine lv_iload S.1 S.2.1 dX1_rankOf_50 (lv_at hl 1 rfl) ?_
  obtain ⟨h_22, hf⟩ := hf
  refine nm_o hf (fun I_23 eI_23 hf => ?_)
  refine R_iast S.1 S.2.1 hK hP hD hS (hM 15 (by decide)) (IAg15 E hB) h_22 dX1_rankOf_52 eI_23 (fun H locs hP hD hS => ?_)
  refine lv_aload_n S.1 S.2.1 dX1_rankOf_53 rfl (lv_at hl 3 rfl) ?_
  refine gfX1_12 S iX1 hK hP hB (hM 0 (by decide)) k2 dX1_rankOf_54 ?_
  refine lv_bipush (v := (-3)) S.1 S.2.1 dX1_rankOf_57 rfl ?_
  refine R_cSi (As := [.int (-3 : Int32)]) (rest := [.ref (eA E b 15)]) S (c_X3_indexOf   hf) gX1_rankOf_X3_indexOf rfl yk_X3_indexOf ⟨⟨Nat.le_of_ble_eq_true rfl, Nat.le_of_ble_eq_true rfl⟩, rfl, rfl⟩ hK hP hD hS hX hA rfl hl.1 rfl (Nat.le_of_ble_eq_true rfl) ⟨Nat.zero_le _, Nat.zero_le _⟩ dX1_rankOf_59 (fun v_26 I_24 J_25 H locs hf hP hD hS => ?_)
  refine lv_aload_n S.1 S.2.1 dX1_rankOf_62 rfl (lv_at hl 3 rfl) ?_
  refine gfX1_0 S iX1 hK hP hB (hM 0 (by decide)) k3 dX1_rankOf_63 ?_
  refine lv_lload_n S.1 S.2.1 dX1_rankOf_66 rfl (lv_at hl 2 rfl) ?_
  refine lv_aload_n S.1 S.2.1 dX1_rankOf_67 rfl (lv_at hl 3 rfl) ?_
  refine gfX1_4 S iX1 hK hP hB (hM 0 (by decide)) k4 dX1_rankOf_68 ?_
  refine lv_iload_n S.1 S.2.1 dX1_rankOf_71 rfl (lv_at hl 5 rfl) ?_
  obtain ⟨h_27, hf⟩ := hf
  refine R_lald S.1 S.2.1 hK hP (hM 10 (by decide)) (LAg10 E hB) h_27 dX1_rankOf_72 ?_
  refine R_cVi (As := [.long v_3, .long (J_25 b 10 x2.toNatClampNeg)]) (rest := [.int v_26, .ref (eA E b 15)]) S (c_X4_rhymeOf (hB := hB) (hM := hM)  hf) gX1_rankOf_X4_rhymeOf rfl yk_X4_rhymeOf ⟨⟨Nat.le_of_ble_eq_true rfl, Nat.le_of_ble_eq_true rfl⟩, rfl, rfl⟩ hK hP hD hS hX hA (hM 1 (by decide)) (cF_g E hB _ _ 1) rfl rfl hl.1 rfl (Nat.le_of_ble_eq_true rfl) ⟨Nat.zero_le _, Nat.zero_le _⟩ dX1_rankOf_73 (fun v_30 I_28 J_29 H locs hf hP hD hS => ?_)
  obtain ⟨h_31, hf⟩ := hf
  refine nm_o hf (fun I_32 eI_32 hf => ?_)
  refine R_iast S.1 S.2.1 hK hP hD hS (hM 15 (by decide)) (IAg15 E hB) h_31 dX1_rankOf_76 eI_32 (fun H locs hP hD hS => ?_)
  refine lv_aload_n S.1 S.2.1 dX1_rankOf_77 rfl (lv_at hl 3 rfl) ?_
  refine gfX1_12 S iX1 hK hP hB (hM 0 (by decide)) k2 dX1_rankOf_78 ?_
  refine lv_bipush (v := (-4)) S.1 S.2.1 dX1_rankOf_81 rfl ?_
  refine R_cSi (As := [.int (-4 : Int32)]) (rest := [.ref (eA E b 15)]) S (c_X3_indexOf   hf) gX1_rankOf_X3_indexOf rfl yk_X3_indexOf ⟨⟨Nat.le_of_ble_eq_true rfl, Nat.le_of_ble_eq_true rfl⟩, rfl, rfl⟩ hK hP hD hS hX hA rfl hl.1 rfl (Nat.le_of_ble_eq_true rfl) ⟨Nat.zero_le _, Nat.zero_le _⟩ dX1_rankOf_83 (fun v_35 I_33 J_34 H locs hf hP hD hS => ?_)
  refine lv_iload S.1 S.2.1 dX1_rankOf_86 (lv_at hl 0 rfl) ?_
  obtain ⟨h_36, hf⟩ := hf
  refine nm_o hf (fun I_37 eI_37 hf => ?_)
  refine R_iast S.1 S.2.1 hK hP hD hS (hM 15 (by decide)) (IAg15 E hB) h_36 dX1_rankOf_88 eI_37 (fun H locs hP hD hS => ?_)
  refine lv_aload_n S.1 S.2.1 dX1_rankOf_89 rfl (lv_at hl 3 rfl) ?_
  refine gfX1_12 S iX1 hK hP hB (hM 0 (by decide)) k2 dX1_rankOf_90 ?_
  refine lv_bipush (v := (-5)) S.1 S.2.1 dX1_rankOf_93 rfl ?_
  refine R_cSi (As := [.int (-5 : Int32)]) (rest := [.ref (eA E b 15)]) S (c_X3_indexOf   hf) gX1_rankOf_X3_indexOf rfl yk_X3_indexOf ⟨⟨Nat.le_of_ble_eq_true rfl, Nat.le_of_ble_eq_true rfl⟩, rfl, rfl⟩ hK hP hD hS hX hA rfl hl.1 rfl (Nat.le_of_ble_eq_true rfl) ⟨Nat.zero_le _, Nat.zero_le _⟩ dX1_rankOf_95 (fun v_40 I_38 J_39 H locs hf hP hD hS => ?_)
  refine lv_iload S.1 S.2.1 dX1_rankOf_98 (lv_at hl 0 rfl) ?_
  refine lv_if_ne (tgt := 107) S.1 S.2.1 dX1_rankOf_100 (by decide) (fun h_41 => ?_) (fun h_41 => ?_)
  · have hf := hf.2 h_41
    refine lv_iconst (v := 0) S.1 S.2.1 dX1_rankOf_107 rfl ?_
    exact jn108 _ _ _ _ hf _ _ _ hP hD hS (lv_sub hl [3] rfl)
  · have hf := hf.1 h_41
    refine lv_iconst (v := 1) S.1 S.2.1 dX1_rankOf_103 rfl ?_
    refine lv_goto (tgt := 108) S.1 S.2.1 dX1_rankOf_104 (by decide) ?_
    exact jn108 _ _ _ _ hf _ _ _ hP hD hS (lv_sub hl [3] rfl)
abbrev rmX1_bestPlay : Room := { frames := 3, cells := 0, slots := 0, locals := 80 }
theorem yk_X1_bestPlay : yOk yX1_bestPlay RX1 0 := by unfold yOk; decide +kernel
def f_X1_bestPlay_J64 (b : Nat) (K81 : Int32 → Int32 → MI → MJ → Prop) (rec22 : Int32 → Int32 → Int32 → MI → MJ → Prop) (x3_10 : Int32) (x4_24 : Int32) (x5_25 : Int32) (I_26 : MI) (J_27 : MJ) : Prop :=
  ∀ x1_28 : Int32, x1_28 = (((10 : Int32) * x3_10) + x4_24) → ∀ x4_29 : Int32, x4_29 = x4_24 + (1 : Int32) → rec22 x1_28 x5_25 x4_29 I_26 J_27
def f_X1_bestPlay_B22 (b : Nat) (x3_10 : Int32) (K81 : Int32 → Int32 → MI → MJ → Prop) (rec22 : Int32 → Int32 → Int32 → MI → MJ → Prop) (x1_8 : Int32) (x2_9 : Int32) (x4_11 : Int32) (I_12 : MI) (J_13 : MJ) : Prop :=
  (((I_12 b 1 3) ≤ x4_11 → K81 x1_8 x2_9 I_12 J_13) ∧ (¬ (I_12 b 1 3) ≤ x4_11 → f_X1_obstacleNow b x3_10 x4_11 I_12 J_13 (fun (v_17 : Int32) (I_15 : MI) (J_16 : MJ) => ((v_17 = (0 : Int32) → f_X1_rankOf b x3_10 x4_11 I_15 J_16 (fun (v_22 : Int32) (I_20 : MI) (J_21 : MJ) => ((x1_8 = (-1 : Int32) → f_X1_bestPlay_J64 b K81 rec22 x3_10 x4_11 v_22 I_20 J_21) ∧ (¬ x1_8 = (-1 : Int32) → ((v_22 ≤ x2_9 → ∀ x4_31 : Int32, x4_31 = x4_11 + (1 : Int32) → rec22 x1_8 x2_9 x4_31 I_20 J_21) ∧ (¬ v_22 ≤ x2_9 → f_X1_bestPlay_J64 b K81 rec22 x3_10 x4_11 v_22 I_20 J_21)))))) ∧ (¬ v_17 = (0 : Int32) → ∀ x4_19 : Int32, x4_19 = x4_11 + (1 : Int32) → rec22 x1_8 x2_9 x4_19 I_15 J_16)))))
def f_X1_bestPlay_L22 (b : Nat) (x3_10 : Int32) (K81 : Int32 → Int32 → MI → MJ → Prop) : Nat → Int32 → Int32 → Int32 → MI → MJ → Prop
  | 0, _, _, _, _, _ => False
  | n + 1, x1_8, x2_9, x4_11, I_12, J_13 => f_X1_bestPlay_B22 b x3_10 K81 (f_X1_bestPlay_L22 b x3_10 K81 n) x1_8 x2_9 x4_11 I_12 J_13
def f_X1_bestPlay_B6 (b : Nat) (K87 : Int32 → MI → MJ → Prop) (rec6 : Int32 → Int32 → Int32 → MI → MJ → Prop) (x1_1 : Int32) (x2_2 : Int32) (x3_3 : Int32) (I_4 : MI) (J_5 : MJ) : Prop :=
  (vp_in (I_4 b 0 9) 4 ∧ (((I_4 b 13 (I_4 b 0 9).toNatClampNeg) ≤ x3_3 → K87 x1_1 I_4 J_5) ∧ (¬ (I_4 b 13 (I_4 b 0 9).toNatClampNeg) ≤ x3_3 → ∃ n : Nat, f_X1_bestPlay_L22 b x3_3 (fun (x1_32 : Int32) (x2_33 : Int32) (I_34 : MI) (J_35 : MJ) => ∀ x3_36 : Int32, x3_36 = x3_3 + (1 : Int32) → rec6 x1_32 x2_33 x3_36 I_34 J_35) n x1_1 x2_2 (0 : Int32) I_4 J_5)))
def f_X1_bestPlay_L6 (b : Nat) (K87 : Int32 → MI → MJ → Prop) : Nat → Int32 → Int32 → Int32 → MI → MJ → Prop
  | 0, _, _, _, _, _ => False
  | n + 1, x1_1, x2_2, x3_3, I_4, J_5 => f_X1_bestPlay_B6 b K87 (f_X1_bestPlay_L6 b K87 n) x1_1 x2_2 x3_3 I_4 J_5
def f_X1_bestPlay (b : Nat) (I : MI) (J : MJ) (Q : Int32 → MI → MJ → Prop) : Prop :=
  ∃ n : Nat, f_X1_bestPlay_L6 b (fun (x1_38 : Int32) (I_39 : MI) (J_40 : MJ) => Q x1_38 I_39 J_40) n (-1 : Int32) (0 : Int32) (0 : Int32) I J
set_option maxRecDepth 100000 in
set_option maxHeartbeats 4000000 in
theorem c_X1_bestPlay {l : Launch} {E : EV} {ps : List (Nat × Nat)} {b : Nat} (hB : b < 11) (hM : ∀ r, r < 16 → (b, r) ∈ ps) {I : MI} {J : MJ} {Q : Int32 → MI → MJ → Prop} (hf : f_X1_bestPlay b I J Q) : KI l yX1_bestPlay wsX1_bestPlay rmX1_bestPlay E ps [.ref (eA E b 0)] I J Q := by
  refine K_ofI (cc := cX1_bestPlay) (maxL := 6) (ty := .int) (by decide +kernel) rfl (Nat.le_of_ble_eq_true rfl) (fun p e s m args below meth c Qm hret S hK hX => ?_)
  have hA : ∀ q, s.heap.size ≤ q → AA E ps s.heap.size q := fun _ h => Or.inr h
  have k1 := S.2.2.2.2 (.fieldLink RX1 38 "RhymeRoofs$Game" "handSize" "[I") (by decide +kernel)
  have iX1 : ∀ w ∈ wsX10, w ∈ wsX1_bestPlay := fun _ h => List.mem_cons_of_mem _ (List.mem_append_left _ (List.mem_append_left _ (List.mem_append_right _ h)))
  have k2 := S.2.2.2.2 (.fieldLink RX1 62 "RhymeRoofs$Game" "turn" "I") (by decide +kernel)
  have k3 := S.2.2.2.2 (.fieldLink RX1 12 "RhymeRoofs$Game" "rules" "LRhymeRoofs$Rules;") (by decide +kernel)
  have k4 := S.2.2.2.2 (.fieldLink RX1 83 "RhymeRoofs$Rules" "rows" "I") (by decide +kernel)
  have iX4 : ∀ w ∈ wsX40, w ∈ wsX1_bestPlay := fun _ h => List.mem_cons_of_mem _ (List.mem_append_left _ (List.mem_append_right _ h))
  intro H locs ls hP hD hS hl
  unfold f_X1_bestPlay at hf
  refine lv_iconst (v := (-1)) S.1 S.2.1 dX1_bestPlay_0 rfl ?_
  refine lv_istore_n (lv' := [(1, .int (-1 : Int32)), (0, .ref (eA E b 0))]) S.1 S.2.1 dX1_bestPlay_1 rfl hl (by decide) rfl (fun ls hl => ?_)
  refine lv_iconst (v := 0) S.1 S.2.1 dX1_bestPlay_2 rfl ?_
  refine lv_istore_n (lv' := [(2, .int (0 : Int32)), (1, .int (-1 : Int32)), (0, .ref (eA E b 0))]) S.1 S.2.1 dX1_bestPlay_3 rfl hl (by decide) rfl (fun ls hl => ?_)
  refine lv_iconst (v := 0) S.1 S.2.1 dX1_bestPlay_4 rfl ?_
  refine lv_istore_n (lv' := [(3, .int (0 : Int32)), (2, .int (0 : Int32)), (1, .int (-1 : Int32)), (0, .ref (eA E b 0))]) S.1 S.2.1 dX1_bestPlay_5 rfl hl (by decide) rfl (fun ls hl => ?_)
  obtain ⟨n_41, hf⟩ := hf
  have L6 : ∀ (K87 : Int32 → MI → MJ → Prop), (∀ (x1_38 : Int32) (I_39 : MI) (J_40 : MJ), K87 x1_38 I_39 J_40 → Wj p l e (rmX1_bestPlay) s m args below meth c Qm E ps 6 I_39 J_40 87 [(1, .int x1_38)] []) → ∀ (n : Nat) (x1_1 : Int32) (x2_2 : Int32) (x3_3 : Int32) (I_4 : MI) (J_5 : MJ), f_X1_bestPlay_L6 b K87 n x1_1 x2_2 x3_3 I_4 J_5 → Wj p l e (rmX1_bestPlay) s m args below meth c Qm E ps 6 I_4 J_5 6 [(0, .ref (eA E b 0)), (1, .int x1_1), (2, .int x2_2), (3, .int x3_3)] [] := by
    intro K87 kx87 n
    induction n with
    | zero => intro x1_1 x2_2 x3_3 I_4 J_5 hf; exact hf.elim
    | succ n ih6 =>
      intro x1_1 x2_2 x3_3 I_4 J_5 hf
      have hf : f_X1_bestPlay_B6 b K87 (f_X1_bestPlay_L6 b K87 n) x1_1 x2_2 x3_3 I_4 J_5 := hf
      intro H locs ls hP hD hS hl
      unfold f_X1_bestPlay_B6 at hf
      refine lv_iload_n S.1 S.2.1 dX1_bestPlay_6 rfl (lv_at hl 3 rfl) ?_
      refine lv_aload_n S.1 S.2.1 dX1_bestPlay_7 rfl (lv_at hl 0 rfl) ?_
      refine gfX1_7 S iX1 hK hP hB (hM 0 (by decide)) k1 dX1_bestPlay_8 ?_
      refine lv_aload_n S.1 S.2.1 dX1_bestPlay_11 rfl (lv_at hl 0 rfl) ?_
      refine gfX1_9 S iX1 hK hP hB (hM 0 (by decide)) k2 dX1_bestPlay_12 ?_
      obtain ⟨h_6, hf⟩ := hf
      refine R_iald S.1 S.2.1 hK hP (hM 13 (by decide)) (IAg13 E hB) h_6 dX1_bestPlay_15 ?_
      refine lv_icmp_ge (tgt := 87) S.1 S.2.1 dX1_bestPlay_16 (by decide) (fun h_7 => ?_) (fun h_7 => ?_)
      · have hf := hf.1 h_7
        exact kx87 _ _ _ hf _ _ _ hP hD hS (lv_sub hl [1] rfl)
      · have hf := hf.2 h_7
        refine lv_iconst (v := 0) S.1 S.2.1 dX1_bestPlay_19 rfl ?_
        refine lv_istore (lv' := [(4, .int (0 : Int32)), (0, .ref (eA E b 0)), (1, .int x1_1), (2, .int x2_2), (3, .int x3_3)]) S.1 S.2.1 dX1_bestPlay_20 hl (by decide) rfl (fun ls hl => ?_)
        obtain ⟨n_37, hf⟩ := hf
        have L22 : ∀ (x3_10 : Int32), ∀ (K81 : Int32 → Int32 → MI → MJ → Prop), (∀ (x1_32 : Int32) (x2_33 : Int32) (I_34 : MI) (J_35 : MJ), K81 x1_32 x2_33 I_34 J_35 → Wj p l e (rmX1_bestPlay) s m args below meth c Qm E ps 6 I_34 J_35 81 [(0, .ref (eA E b 0)), (1, .int x1_32), (2, .int x2_33), (3, .int x3_10)] []) → ∀ (n : Nat) (x1_8 : Int32) (x2_9 : Int32) (x4_11 : Int32) (I_12 : MI) (J_13 : MJ), f_X1_bestPlay_L22 b x3_10 K81 n x1_8 x2_9 x4_11 I_12 J_13 → Wj p l e (rmX1_bestPlay) s m args below meth c Qm E ps 6 I_12 J_13 22 [(0, .ref (eA E b 0)), (1, .int x1_8), (2, .int x2_9), (3, .int x3_10), (4, .int x4_11)] [] := by
          intro x3_10 K81 kx81 n
          induction n with
          | zero => intro x1_8 x2_9 x4_11 I_12 J_13 hf; exact hf.elim
          | succ n ih22 =>
            intro x1_8 x2_9 x4_11 I_12 J_13 hf
            have hf : f_X1_bestPlay_B22 b x3_10 K81 (f_X1_bestPlay_L22 b x3_10 K81 n) x1_8 x2_9 x4_11 I_12 J_13 := hf
            have jn64 : ∀ (x4_24 : Int32) (x5_25 : Int32) (I_26 : MI) (J_27 : MJ), f_X1_bestPlay_J64 b K81 (f_X1_bestPlay_L22 b x3_10 K81 n) x3_10 x4_24 x5_25 I_26 J_27 → Wj p l e (rmX1_bestPlay) s m args below meth c Qm E ps 6 I_26 J_27 64 [(0, .ref (eA E b 0)), (3, .int x3_10), (4, .int x4_24), (5, .int x5_25)] [] := by
              intro x4_24 x5_25 I_26 J_27 hf H locs ls hP hD hS hl
              unfold f_X1_bestPlay_J64 at hf
              refine lv_bipush (v := 10) S.1 S.2.1 dX1_bestPlay_64 rfl ?_
              refine lv_iload_n S.1 S.2.1 dX1_bestPlay_66 rfl (lv_at hl 1 rfl) ?_
              refine lv_imul S.1 S.2.1 dX1_bestPlay_67 ?_
              refine lv_iload S.1 S.2.1 dX1_bestPlay_68 (lv_at hl 2 rfl) ?_
              refine lv_iadd S.1 S.2.1 dX1_bestPlay_70 ?_
              refine lv_topi (fun x1_28 ex1_28 => ?_)
              have hf := hf x1_28 ex1_28
              refine lv_istore_n (lv' := [(1, .int x1_28), (0, .ref (eA E b 0)), (3, .int x3_10), (4, .int x4_24), (5, .int x5_25)]) S.1 S.2.1 dX1_bestPlay_71 rfl hl (by decide) rfl (fun ls hl => ?_)
              refine lv_iload S.1 S.2.1 dX1_bestPlay_72 (lv_at hl 4 rfl) ?_
              refine lv_istore_n (lv' := [(2, .int x5_25), (1, .int x1_28), (0, .ref (eA E b 0)), (3, .int x3_10), (4, .int x4_24), (5, .int x5_25)]) S.1 S.2.1 dX1_bestPlay_74 rfl hl (by decide) rfl (fun ls hl => ?_)
              refine nm_o hf (fun x4_29 ex4_29 hf => ?_)
              refine lv_iinc (v := x4_29) (lv' := [(4, .int x4_29), (2, .int x5_25), (1, .int x1_28), (0, .ref (eA E b 0)), (3, .int x3_10), (5, .int x5_25)]) S.1 S.2.1 dX1_bestPlay_75 hl (k := 4) rfl (by rw [ex4_29]; rfl) (by decide) rfl (fun ls hl => ?_)
              refine lv_goto (tgt := 22) S.1 S.2.1 dX1_bestPlay_78 (by decide) ?_
              exact ih22 _ _ _ _ _ hf _ _ _ hP hD hS (lv_sub hl [3, 2, 1, 4, 0] rfl)
            intro H locs ls hP hD hS hl
            unfold f_X1_bestPlay_B22 at hf
            refine lv_iload S.1 S.2.1 dX1_bestPlay_22 (lv_at hl 4 rfl) ?_
            refine lv_aload_n S.1 S.2.1 dX1_bestPlay_24 rfl (lv_at hl 0 rfl) ?_
            refine gfX1_0 S iX1 hK hP hB (hM 0 (by decide)) k3 dX1_bestPlay_25 ?_
            refine gfX4_3 S iX4 hK hP hB (hM 1 (by decide)) k4 dX1_bestPlay_28 ?_
            refine lv_icmp_ge (tgt := 81) S.1 S.2.1 dX1_bestPlay_31 (by decide) (fun h_14 => ?_) (fun h_14 => ?_)
            · have hf := hf.1 h_14
              exact kx81 _ _ _ _ hf _ _ _ hP hD hS (lv_sub hl [0, 1, 2, 3] rfl)
            · have hf := hf.2 h_14
              refine lv_aload_n S.1 S.2.1 dX1_bestPlay_34 rfl (lv_at hl 0 rfl) ?_
              refine lv_iload_n S.1 S.2.1 dX1_bestPlay_35 rfl (lv_at hl 3 rfl) ?_
              refine lv_iload S.1 S.2.1 dX1_bestPlay_36 (lv_at hl 4 rfl) ?_
              refine R_cVi (As := [.int x3_10, .int x4_11]) (rest := []) S (c_X1_obstacleNow (hB := hB) (hM := hM)  hf) gX1_bestPlay_X1_obstacleNow rfl yk_X1_obstacleNow ⟨⟨Nat.le_of_ble_eq_true rfl, Nat.le_of_ble_eq_true rfl⟩, rfl, rfl⟩ hK hP hD hS hX hA (hM 0 (by decide)) (cF_g E hB _ _ 0) rfl rfl hl.1 rfl (Nat.le_of_ble_eq_true rfl) ⟨Nat.zero_le _, Nat.zero_le _⟩ dX1_bestPlay_38 (fun v_17 I_15 J_16 H locs hf hP hD hS => ?_)
              refine lv_if_ne (tgt := 75) S.1 S.2.1 dX1_bestPlay_41 (by decide) (fun h_18 => ?_) (fun h_18 => ?_)
              · have hf := hf.2 h_18
                refine nm_o hf (fun x4_19 ex4_19 hf => ?_)
                refine lv_iinc (v := x4_19) (lv' := [(4, .int x4_19), (0, .ref (eA E b 0)), (1, .int x1_8), (2, .int x2_9), (3, .int x3_10)]) S.1 S.2.1 dX1_bestPlay_75 hl (k := 4) rfl (by rw [ex4_19]; rfl) (by decide) rfl (fun ls hl => ?_)
                refine lv_goto (tgt := 22) S.1 S.2.1 dX1_bestPlay_78 (by decide) ?_
                exact ih22 _ _ _ _ _ hf _ _ _ hP hD hS (lv_sub hl [1, 2, 3, 4, 0] rfl)
              · have hf := hf.1 h_18
                refine lv_aload_n S.1 S.2.1 dX1_bestPlay_44 rfl (lv_at hl 0 rfl) ?_
                refine lv_iload_n S.1 S.2.1 dX1_bestPlay_45 rfl (lv_at hl 3 rfl) ?_
                refine lv_iload S.1 S.2.1 dX1_bestPlay_46 (lv_at hl 4 rfl) ?_
                refine R_cVi (As := [.int x3_10, .int x4_11]) (rest := []) S (c_X1_rankOf (hB := hB) (hM := hM)  hf) gX1_bestPlay_X1_rankOf rfl yk_X1_rankOf ⟨⟨Nat.le_of_ble_eq_true rfl, Nat.le_of_ble_eq_true rfl⟩, rfl, rfl⟩ hK hP hD hS hX hA (hM 0 (by decide)) (cF_g E hB _ _ 0) rfl rfl hl.1 rfl (Nat.le_of_ble_eq_true rfl) ⟨Nat.zero_le _, Nat.zero_le _⟩ dX1_bestPlay_48 (fun v_22 I_20 J_21 H locs hf hP hD hS => ?_)
                refine lv_istore (lv' := [(5, .int v_22), (0, .ref (eA E b 0)), (1, .int x1_8), (2, .int x2_9), (3, .int x3_10), (4, .int x4_11)]) S.1 S.2.1 dX1_bestPlay_51 hl (by decide) rfl (fun ls hl => ?_)
                refine lv_iload_n S.1 S.2.1 dX1_bestPlay_53 rfl (lv_at hl 2 rfl) ?_
                refine lv_iconst (v := (-1)) S.1 S.2.1 dX1_bestPlay_54 rfl ?_
                refine lv_icmp_eq (tgt := 64) S.1 S.2.1 dX1_bestPlay_55 (by decide) (fun h_23 => ?_) (fun h_23 => ?_)
                · have hf := hf.1 h_23
                  exact jn64 _ _ _ _ hf _ _ _ hP hD hS (lv_sub hl [1, 4, 5, 0] rfl)
                · have hf := hf.2 h_23
                  refine lv_iload S.1 S.2.1 dX1_bestPlay_58 (lv_at hl 0 rfl) ?_
                  refine lv_iload_n S.1 S.2.1 dX1_bestPlay_60 rfl (lv_at hl 3 rfl) ?_
                  refine lv_icmp_le (tgt := 75) S.1 S.2.1 dX1_bestPlay_61 (by decide) (fun h_30 => ?_) (fun h_30 => ?_)
                  · have hf := hf.1 h_30
                    refine nm_o hf (fun x4_31 ex4_31 hf => ?_)
                    refine lv_iinc (v := x4_31) (lv' := [(4, .int x4_31), (5, .int v_22), (0, .ref (eA E b 0)), (1, .int x1_8), (2, .int x2_9), (3, .int x3_10)]) S.1 S.2.1 dX1_bestPlay_75 hl (k := 5) rfl (by rw [ex4_31]; rfl) (by decide) rfl (fun ls hl => ?_)
                    refine lv_goto (tgt := 22) S.1 S.2.1 dX1_bestPlay_78 (by decide) ?_
                    exact ih22 _ _ _ _ _ hf _ _ _ hP hD hS (lv_sub hl [2, 3, 4, 5, 0] rfl)
                  · have hf := hf.2 h_30
                    exact jn64 _ _ _ _ hf _ _ _ hP hD hS (lv_sub hl [1, 4, 5, 0] rfl)
        refine L22 _ _ (fun x1_32 x2_33 I_34 J_35 hf H locs ls hP hD hS hl => ?_)  n_37 _ _ _ _ _ hf _ _ _ hP hD hS (lv_sub hl [1, 2, 3, 4, 0] rfl)
        refine nm_o hf (fun x3_36 ex3_36 hf => ?_)
        refine lv_iinc (v := x3_36) (lv' := [(3, .int x3_36), (0, .ref (eA E b 0)), (1, .int x1_32), (2, .int x2_33)]) S.1 S.2.1 dX1_bestPlay_81 hl (k := 3) rfl (by rw [ex3_36]; rfl) (by decide) rfl (fun ls hl => ?_)
        refine lv_goto (tgt := 6) S.1 S.2.1 dX1_bestPlay_84 (by decide) ?_
        exact ih6 _ _ _ _ _ hf _ _ _ hP hD hS (lv_sub hl [1, 2, 3, 0] rfl)
  refine L6 _ (fun x1_38 I_39 J_40 hf H locs ls hP hD hS hl => ?_)  n_41 _ _ _ _ _ hf _ _ _ hP hD hS (lv_sub hl [3, 2, 1, 0] rfl)
  refine lv_iload_n S.1 S.2.1 dX1_bestPlay_87 rfl (lv_at hl 0 rfl) ?_
  exact hret hf rfl hP hD hS dX1_bestPlay_88
abbrev rmX1_endTurn : Room := { frames := 2, cells := 0, slots := 0, locals := 42 }
theorem yk_X1_endTurn : yOk yX1_endTurn RX1 1 := by unfold yOk; decide +kernel
def f_X1_endTurn (b : Nat) (x1 : Int32) (I : MI) (J : MJ) (Q : MI → MJ → Prop) : Prop :=
  ((x1 = (0 : Int32) → (((I b 1 4) ≤ ((I b 0 9) + (1 : Int32)) → ∀ I_3 : MI, I_3 = sI I b 0 9 (0 : Int32) → Q I_3 J) ∧ (¬ (I b 1 4) ≤ ((I b 0 9) + (1 : Int32)) → ∀ I_4 : MI, I_4 = sI I b 0 9 ((I b 0 9) + (1 : Int32)) → Q I_4 J))) ∧ (¬ x1 = (0 : Int32) → ∀ I_5 : MI, I_5 = sI I b 0 11 (1 : Int32) → f_X1_payOwners b I_5 J (fun (I_6 : MI) (J_7 : MJ) => Q I_6 J_7)))
set_option maxRecDepth 100000 in
set_option maxHeartbeats 4000000 in
theorem c_X1_endTurn {l : Launch} {E : EV} {ps : List (Nat × Nat)} {b : Nat} (hB : b < 11) (hM : ∀ r, r < 16 → (b, r) ∈ ps) {x1 : Int32} {I : MI} {J : MJ} {Q : MI → MJ → Prop} (hf : f_X1_endTurn b x1 I J Q) : KV l yX1_endTurn wsX1_endTurn rmX1_endTurn E ps [.ref (eA E b 0), .int x1] I J Q := by
  refine K_ofV (cc := cX1_endTurn) (maxL := 2) (by decide +kernel) rfl (Nat.le_of_ble_eq_true rfl) (fun p e s m args below meth c Qm hret S hK hX => ?_)
  have hA : ∀ q, s.heap.size ≤ q → AA E ps s.heap.size q := fun _ h => Or.inr h
  have k1 := S.2.2.2.2 (.fieldLink RX1 62 "RhymeRoofs$Game" "turn" "I") (by decide +kernel)
  have iX1 : ∀ w ∈ wsX10, w ∈ wsX1_endTurn := fun _ h => List.mem_cons_of_mem _ (List.mem_append_left _ (List.mem_append_right _ h))
  have k2 := S.2.2.2.2 (.fieldLink RX1 12 "RhymeRoofs$Game" "rules" "LRhymeRoofs$Rules;") (by decide +kernel)
  have k3 := S.2.2.2.2 (.fieldLink RX1 86 "RhymeRoofs$Rules" "players" "I") (by decide +kernel)
  have iX4 : ∀ w ∈ wsX40, w ∈ wsX1_endTurn := fun _ h => List.mem_cons_of_mem _ (List.mem_append_right _ h)
  have k4 := S.2.2.2.2 (.fieldLink RX1 69 "RhymeRoofs$Game" "over" "Z") (by decide +kernel)
  intro H locs ls hP hD hS hl
  unfold f_X1_endTurn at hf
  refine lv_iload_n S.1 S.2.1 dX1_endTurn_0 rfl (lv_at hl 1 rfl) ?_
  refine lv_if_eq (tgt := 16) S.1 S.2.1 dX1_endTurn_1 (by decide) (fun h_1 => ?_) (fun h_1 => ?_)
  · have hf := hf.1 h_1
    refine lv_aload_n S.1 S.2.1 dX1_endTurn_16 rfl (lv_at hl 0 rfl) ?_
    refine lv_aload_n S.1 S.2.1 dX1_endTurn_17 rfl (lv_at hl 0 rfl) ?_
    refine gfX1_9 S iX1 hK hP hB (hM 0 (by decide)) k1 dX1_endTurn_18 ?_
    refine lv_iconst (v := 1) S.1 S.2.1 dX1_endTurn_21 rfl ?_
    refine lv_iadd S.1 S.2.1 dX1_endTurn_22 ?_
    refine lv_aload_n S.1 S.2.1 dX1_endTurn_23 rfl (lv_at hl 0 rfl) ?_
    refine gfX1_0 S iX1 hK hP hB (hM 0 (by decide)) k2 dX1_endTurn_24 ?_
    refine gfX4_4 S iX4 hK hP hB (hM 1 (by decide)) k3 dX1_endTurn_27 ?_
    refine lv_icmp_ge (tgt := 42) S.1 S.2.1 dX1_endTurn_30 (by decide) (fun h_2 => ?_) (fun h_2 => ?_)
    · have hf := hf.1 h_2
      refine lv_iconst (v := 0) S.1 S.2.1 dX1_endTurn_42 rfl ?_
      refine nm_o hf (fun I_3 eI_3 hf => ?_)
      refine pfX1_9 S iX1 hK hP hD hS hB (hM 0 (by decide)) k1 dX1_endTurn_43 eI_3 (fun H locs hP hD hS => ?_)
      exact hret hf hP hD hS dX1_endTurn_46
    · have hf := hf.2 h_2
      refine lv_aload_n S.1 S.2.1 dX1_endTurn_33 rfl (lv_at hl 0 rfl) ?_
      refine gfX1_9 S iX1 hK hP hB (hM 0 (by decide)) k1 dX1_endTurn_34 ?_
      refine lv_iconst (v := 1) S.1 S.2.1 dX1_endTurn_37 rfl ?_
      refine lv_iadd S.1 S.2.1 dX1_endTurn_38 ?_
      refine lv_goto (tgt := 43) S.1 S.2.1 dX1_endTurn_39 (by decide) ?_
      refine nm_o hf (fun I_4 eI_4 hf => ?_)
      refine pfX1_9 S iX1 hK hP hD hS hB (hM 0 (by decide)) k1 dX1_endTurn_43 eI_4 (fun H locs hP hD hS => ?_)
      exact hret hf hP hD hS dX1_endTurn_46
  · have hf := hf.2 h_1
    refine lv_aload_n S.1 S.2.1 dX1_endTurn_4 rfl (lv_at hl 0 rfl) ?_
    refine lv_iconst (v := 1) S.1 S.2.1 dX1_endTurn_5 rfl ?_
    refine nm_o hf (fun I_5 eI_5 hf => ?_)
    refine pfX1_11 S iX1 hK hP hD hS hB (hM 0 (by decide)) k4 bo1 dX1_endTurn_6 eI_5 (fun H locs hP hD hS => ?_)
    refine lv_aload_n S.1 S.2.1 dX1_endTurn_9 rfl (lv_at hl 0 rfl) ?_
    refine R_cVv (As := []) (rest := []) S (c_X1_payOwners (hB := hB) (hM := hM)  hf) gX1_endTurn_X1_payOwners rfl yk_X1_payOwners ⟨⟨Nat.le_of_ble_eq_true rfl, Nat.le_of_ble_eq_true rfl⟩, rfl, rfl⟩ hK hP hD hS hX hA (hM 0 (by decide)) (cF_g E hB _ _ 0) rfl rfl hl.1 rfl (Nat.le_of_ble_eq_true rfl) ⟨Nat.zero_le _, Nat.zero_le _⟩ dX1_endTurn_10 (fun I_6 J_7 H locs hf hP hD hS => ?_)
    refine lv_goto (tgt := 46) S.1 S.2.1 dX1_endTurn_13 (by decide) ?_
    exact hret hf hP hD hS dX1_endTurn_46
abbrev rmX1_playsNow : Room := { frames := 3, cells := 0, slots := 0, locals := 74 }
theorem yk_X1_playsNow : yOk yX1_playsNow RX1 0 := by unfold yOk; decide +kernel
def f_X1_playsNow_B19 (b : Nat) (x2_8 : Int32) (K48 : Int32 → MI → MJ → Prop) (rec19 : Int32 → Int32 → MI → MJ → Prop) (x1_7 : Int32) (x3_9 : Int32) (I_10 : MI) (J_11 : MJ) : Prop :=
  (((I_10 b 1 3) ≤ x3_9 → K48 x1_7 I_10 J_11) ∧ (¬ (I_10 b 1 3) ≤ x3_9 → f_X1_obstacleNow b x2_8 x3_9 I_10 J_11 (fun (v_15 : Int32) (I_13 : MI) (J_14 : MJ) => ((v_15 = (0 : Int32) → ∀ x1_18 : Int32, x1_18 = x1_7 + (1 : Int32) → ∀ x3_19 : Int32, x3_19 = x3_9 + (1 : Int32) → rec19 x1_18 x3_19 I_13 J_14) ∧ (¬ v_15 = (0 : Int32) → ∀ x3_17 : Int32, x3_17 = x3_9 + (1 : Int32) → rec19 x1_7 x3_17 I_13 J_14)))))
def f_X1_playsNow_L19 (b : Nat) (x2_8 : Int32) (K48 : Int32 → MI → MJ → Prop) : Nat → Int32 → Int32 → MI → MJ → Prop
  | 0, _, _, _, _ => False
  | n + 1, x1_7, x3_9, I_10, J_11 => f_X1_playsNow_B19 b x2_8 K48 (f_X1_playsNow_L19 b x2_8 K48 n) x1_7 x3_9 I_10 J_11
def f_X1_playsNow_B4 (b : Nat) (K54 : Int32 → MI → MJ → Prop) (rec4 : Int32 → Int32 → MI → MJ → Prop) (x1_1 : Int32) (x2_2 : Int32) (I_3 : MI) (J_4 : MJ) : Prop :=
  (vp_in (I_3 b 0 9) 4 ∧ (((I_3 b 13 (I_3 b 0 9).toNatClampNeg) ≤ x2_2 → K54 x1_1 I_3 J_4) ∧ (¬ (I_3 b 13 (I_3 b 0 9).toNatClampNeg) ≤ x2_2 → ∃ n : Nat, f_X1_playsNow_L19 b x2_2 (fun (x1_20 : Int32) (I_21 : MI) (J_22 : MJ) => ∀ x2_23 : Int32, x2_23 = x2_2 + (1 : Int32) → rec4 x1_20 x2_23 I_21 J_22) n x1_1 (0 : Int32) I_3 J_4)))
def f_X1_playsNow_L4 (b : Nat) (K54 : Int32 → MI → MJ → Prop) : Nat → Int32 → Int32 → MI → MJ → Prop
  | 0, _, _, _, _ => False
  | n + 1, x1_1, x2_2, I_3, J_4 => f_X1_playsNow_B4 b K54 (f_X1_playsNow_L4 b K54 n) x1_1 x2_2 I_3 J_4
def f_X1_playsNow (b : Nat) (I : MI) (J : MJ) (Q : Int32 → MI → MJ → Prop) : Prop :=
  ∃ n : Nat, f_X1_playsNow_L4 b (fun (x1_25 : Int32) (I_26 : MI) (J_27 : MJ) => Q x1_25 I_26 J_27) n (0 : Int32) (0 : Int32) I J
set_option maxRecDepth 100000 in
set_option maxHeartbeats 4000000 in
theorem c_X1_playsNow {l : Launch} {E : EV} {ps : List (Nat × Nat)} {b : Nat} (hB : b < 11) (hM : ∀ r, r < 16 → (b, r) ∈ ps) {I : MI} {J : MJ} {Q : Int32 → MI → MJ → Prop} (hf : f_X1_playsNow b I J Q) : KI l yX1_playsNow wsX1_playsNow rmX1_playsNow E ps [.ref (eA E b 0)] I J Q := by
  refine K_ofI (cc := cX1_playsNow) (maxL := 4) (ty := .int) (by decide +kernel) rfl (Nat.le_of_ble_eq_true rfl) (fun p e s m args below meth c Qm hret S hK hX => ?_)
  have hA : ∀ q, s.heap.size ≤ q → AA E ps s.heap.size q := fun _ h => Or.inr h
  have k1 := S.2.2.2.2 (.fieldLink RX1 38 "RhymeRoofs$Game" "handSize" "[I") (by decide +kernel)
  have iX1 : ∀ w ∈ wsX10, w ∈ wsX1_playsNow := fun _ h => List.mem_cons_of_mem _ (List.mem_append_left _ (List.mem_append_right _ h))
  have k2 := S.2.2.2.2 (.fieldLink RX1 62 "RhymeRoofs$Game" "turn" "I") (by decide +kernel)
  have k3 := S.2.2.2.2 (.fieldLink RX1 12 "RhymeRoofs$Game" "rules" "LRhymeRoofs$Rules;") (by decide +kernel)
  have k4 := S.2.2.2.2 (.fieldLink RX1 83 "RhymeRoofs$Rules" "rows" "I") (by decide +kernel)
  have iX4 : ∀ w ∈ wsX40, w ∈ wsX1_playsNow := fun _ h => List.mem_cons_of_mem _ (List.mem_append_right _ h)
  intro H locs ls hP hD hS hl
  unfold f_X1_playsNow at hf
  refine lv_iconst (v := 0) S.1 S.2.1 dX1_playsNow_0 rfl ?_
  refine lv_istore_n (lv' := [(1, .int (0 : Int32)), (0, .ref (eA E b 0))]) S.1 S.2.1 dX1_playsNow_1 rfl hl (by decide) rfl (fun ls hl => ?_)
  refine lv_iconst (v := 0) S.1 S.2.1 dX1_playsNow_2 rfl ?_
  refine lv_istore_n (lv' := [(2, .int (0 : Int32)), (1, .int (0 : Int32)), (0, .ref (eA E b 0))]) S.1 S.2.1 dX1_playsNow_3 rfl hl (by decide) rfl (fun ls hl => ?_)
  obtain ⟨n_28, hf⟩ := hf
  have L4 : ∀ (K54 : Int32 → MI → MJ → Prop), (∀ (x1_25 : Int32) (I_26 : MI) (J_27 : MJ), K54 x1_25 I_26 J_27 → Wj p l e (rmX1_playsNow) s m args below meth c Qm E ps 4 I_26 J_27 54 [(1, .int x1_25)] []) → ∀ (n : Nat) (x1_1 : Int32) (x2_2 : Int32) (I_3 : MI) (J_4 : MJ), f_X1_playsNow_L4 b K54 n x1_1 x2_2 I_3 J_4 → Wj p l e (rmX1_playsNow) s m args below meth c Qm E ps 4 I_3 J_4 4 [(0, .ref (eA E b 0)), (1, .int x1_1), (2, .int x2_2)] [] := by
    intro K54 kx54 n
    induction n with
    | zero => intro x1_1 x2_2 I_3 J_4 hf; exact hf.elim
    | succ n ih4 =>
      intro x1_1 x2_2 I_3 J_4 hf
      have hf : f_X1_playsNow_B4 b K54 (f_X1_playsNow_L4 b K54 n) x1_1 x2_2 I_3 J_4 := hf
      intro H locs ls hP hD hS hl
      unfold f_X1_playsNow_B4 at hf
      refine lv_iload_n S.1 S.2.1 dX1_playsNow_4 rfl (lv_at hl 2 rfl) ?_
      refine lv_aload_n S.1 S.2.1 dX1_playsNow_5 rfl (lv_at hl 0 rfl) ?_
      refine gfX1_7 S iX1 hK hP hB (hM 0 (by decide)) k1 dX1_playsNow_6 ?_
      refine lv_aload_n S.1 S.2.1 dX1_playsNow_9 rfl (lv_at hl 0 rfl) ?_
      refine gfX1_9 S iX1 hK hP hB (hM 0 (by decide)) k2 dX1_playsNow_10 ?_
      obtain ⟨h_5, hf⟩ := hf
      refine R_iald S.1 S.2.1 hK hP (hM 13 (by decide)) (IAg13 E hB) h_5 dX1_playsNow_13 ?_
      refine lv_icmp_ge (tgt := 54) S.1 S.2.1 dX1_playsNow_14 (by decide) (fun h_6 => ?_) (fun h_6 => ?_)
      · have hf := hf.1 h_6
        exact kx54 _ _ _ hf _ _ _ hP hD hS (lv_sub hl [1] rfl)
      · have hf := hf.2 h_6
        refine lv_iconst (v := 0) S.1 S.2.1 dX1_playsNow_17 rfl ?_
        refine lv_istore_n (lv' := [(3, .int (0 : Int32)), (0, .ref (eA E b 0)), (1, .int x1_1), (2, .int x2_2)]) S.1 S.2.1 dX1_playsNow_18 rfl hl (by decide) rfl (fun ls hl => ?_)
        obtain ⟨n_24, hf⟩ := hf
        have L19 : ∀ (x2_8 : Int32), ∀ (K48 : Int32 → MI → MJ → Prop), (∀ (x1_20 : Int32) (I_21 : MI) (J_22 : MJ), K48 x1_20 I_21 J_22 → Wj p l e (rmX1_playsNow) s m args below meth c Qm E ps 4 I_21 J_22 48 [(0, .ref (eA E b 0)), (1, .int x1_20), (2, .int x2_8)] []) → ∀ (n : Nat) (x1_7 : Int32) (x3_9 : Int32) (I_10 : MI) (J_11 : MJ), f_X1_playsNow_L19 b x2_8 K48 n x1_7 x3_9 I_10 J_11 → Wj p l e (rmX1_playsNow) s m args below meth c Qm E ps 4 I_10 J_11 19 [(0, .ref (eA E b 0)), (1, .int x1_7), (2, .int x2_8), (3, .int x3_9)] [] := by
          intro x2_8 K48 kx48 n
          induction n with
          | zero => intro x1_7 x3_9 I_10 J_11 hf; exact hf.elim
          | succ n ih19 =>
            intro x1_7 x3_9 I_10 J_11 hf
            have hf : f_X1_playsNow_B19 b x2_8 K48 (f_X1_playsNow_L19 b x2_8 K48 n) x1_7 x3_9 I_10 J_11 := hf
            intro H locs ls hP hD hS hl
            unfold f_X1_playsNow_B19 at hf
            refine lv_iload_n S.1 S.2.1 dX1_playsNow_19 rfl (lv_at hl 3 rfl) ?_
            refine lv_aload_n S.1 S.2.1 dX1_playsNow_20 rfl (lv_at hl 0 rfl) ?_
            refine gfX1_0 S iX1 hK hP hB (hM 0 (by decide)) k3 dX1_playsNow_21 ?_
            refine gfX4_3 S iX4 hK hP hB (hM 1 (by decide)) k4 dX1_playsNow_24 ?_
            refine lv_icmp_ge (tgt := 48) S.1 S.2.1 dX1_playsNow_27 (by decide) (fun h_12 => ?_) (fun h_12 => ?_)
            · have hf := hf.1 h_12
              exact kx48 _ _ _ hf _ _ _ hP hD hS (lv_sub hl [0, 1, 2] rfl)
            · have hf := hf.2 h_12
              refine lv_aload_n S.1 S.2.1 dX1_playsNow_30 rfl (lv_at hl 0 rfl) ?_
              refine lv_iload_n S.1 S.2.1 dX1_playsNow_31 rfl (lv_at hl 2 rfl) ?_
              refine lv_iload_n S.1 S.2.1 dX1_playsNow_32 rfl (lv_at hl 3 rfl) ?_
              refine R_cVi (As := [.int x2_8, .int x3_9]) (rest := []) S (c_X1_obstacleNow (hB := hB) (hM := hM)  hf) gX1_playsNow_X1_obstacleNow rfl yk_X1_obstacleNow ⟨⟨Nat.le_of_ble_eq_true rfl, Nat.le_of_ble_eq_true rfl⟩, rfl, rfl⟩ hK hP hD hS hX hA (hM 0 (by decide)) (cF_g E hB _ _ 0) rfl rfl hl.1 rfl (Nat.le_of_ble_eq_true rfl) ⟨Nat.zero_le _, Nat.zero_le _⟩ dX1_playsNow_33 (fun v_15 I_13 J_14 H locs hf hP hD hS => ?_)
              refine lv_if_ne (tgt := 42) S.1 S.2.1 dX1_playsNow_36 (by decide) (fun h_16 => ?_) (fun h_16 => ?_)
              · have hf := hf.2 h_16
                refine nm_o hf (fun x3_17 ex3_17 hf => ?_)
                refine lv_iinc (v := x3_17) (lv' := [(3, .int x3_17), (0, .ref (eA E b 0)), (1, .int x1_7), (2, .int x2_8)]) S.1 S.2.1 dX1_playsNow_42 hl (k := 3) rfl (by rw [ex3_17]; rfl) (by decide) rfl (fun ls hl => ?_)
                refine lv_goto (tgt := 19) S.1 S.2.1 dX1_playsNow_45 (by decide) ?_
                exact ih19 _ _ _ _ hf _ _ _ hP hD hS (lv_sub hl [1, 2, 3, 0] rfl)
              · have hf := hf.1 h_16
                refine nm_o hf (fun x1_18 ex1_18 hf => ?_)
                refine lv_iinc (v := x1_18) (lv' := [(1, .int x1_18), (0, .ref (eA E b 0)), (2, .int x2_8), (3, .int x3_9)]) S.1 S.2.1 dX1_playsNow_39 hl (k := 1) rfl (by rw [ex1_18]; rfl) (by decide) rfl (fun ls hl => ?_)
                refine nm_o hf (fun x3_19 ex3_19 hf => ?_)
                refine lv_iinc (v := x3_19) (lv' := [(3, .int x3_19), (1, .int x1_18), (0, .ref (eA E b 0)), (2, .int x2_8)]) S.1 S.2.1 dX1_playsNow_42 hl (k := 3) rfl (by rw [ex3_19]; rfl) (by decide) rfl (fun ls hl => ?_)
                refine lv_goto (tgt := 19) S.1 S.2.1 dX1_playsNow_45 (by decide) ?_
                exact ih19 _ _ _ _ hf _ _ _ hP hD hS (lv_sub hl [2, 1, 3, 0] rfl)
        refine L19 _ _ (fun x1_20 I_21 J_22 hf H locs ls hP hD hS hl => ?_)  n_24 _ _ _ _ hf _ _ _ hP hD hS (lv_sub hl [1, 2, 3, 0] rfl)
        refine nm_o hf (fun x2_23 ex2_23 hf => ?_)
        refine lv_iinc (v := x2_23) (lv' := [(2, .int x2_23), (0, .ref (eA E b 0)), (1, .int x1_20)]) S.1 S.2.1 dX1_playsNow_48 hl (k := 2) rfl (by rw [ex2_23]; rfl) (by decide) rfl (fun ls hl => ?_)
        refine lv_goto (tgt := 4) S.1 S.2.1 dX1_playsNow_51 (by decide) ?_
        exact ih4 _ _ _ _ hf _ _ _ hP hD hS (lv_sub hl [1, 2, 0] rfl)
  refine L4 _ (fun x1_25 I_26 J_27 hf H locs ls hP hD hS hl => ?_)  n_28 _ _ _ _ hf _ _ _ hP hD hS (lv_sub hl [2, 1, 0] rfl)
  refine lv_iload_n S.1 S.2.1 dX1_playsNow_54 rfl (lv_at hl 0 rfl) ?_
  exact hret hf rfl hP hD hS dX1_playsNow_55
abbrev rmX1_passTurn : Room := { frames := 3, cells := 0, slots := 0, locals := 63 }
theorem yk_X1_passTurn : yOk yX1_passTurn RX1 0 := by unfold yOk; decide +kernel
def f_X1_passTurn_J30 (b : Nat) (Q : MI → MJ → Prop) (s_3 : Int32) (I_4 : MI) (J_5 : MJ) : Prop :=
  f_X1_endTurn b s_3 I_4 J_5 (fun (I_6 : MI) (J_7 : MJ) => Q I_6 J_7)
def f_X1_passTurn (b : Nat) (I : MI) (J : MJ) (Q : MI → MJ → Prop) : Prop :=
  ∀ I_1 : MI, I_1 = sI I b 0 10 ((I b 0 10) + (1 : Int32)) → (((I_1 b 0 10) < (I_1 b 1 4) → f_X1_passTurn_J30 b Q (0 : Int32) I_1 J) ∧ (¬ (I_1 b 0 10) < (I_1 b 1 4) → f_X1_passTurn_J30 b Q (1 : Int32) I_1 J))
set_option maxRecDepth 100000 in
set_option maxHeartbeats 4000000 in
theorem c_X1_passTurn {l : Launch} {E : EV} {ps : List (Nat × Nat)} {b : Nat} (hB : b < 11) (hM : ∀ r, r < 16 → (b, r) ∈ ps) {I : MI} {J : MJ} {Q : MI → MJ → Prop} (hf : f_X1_passTurn b I J Q) : KV l yX1_passTurn wsX1_passTurn rmX1_passTurn E ps [.ref (eA E b 0)] I J Q := by
  refine K_ofV (cc := cX1_passTurn) (maxL := 1) (by decide +kernel) rfl (Nat.le_of_ble_eq_true rfl) (fun p e s m args below meth c Qm hret S hK hX => ?_)
  have hA : ∀ q, s.heap.size ≤ q → AA E ps s.heap.size q := fun _ h => Or.inr h
  have k1 := S.2.2.2.2 (.fieldLink RX1 66 "RhymeRoofs$Game" "passes" "I") (by decide +kernel)
  have iX1 : ∀ w ∈ wsX10, w ∈ wsX1_passTurn := fun _ h => List.mem_cons_of_mem _ (List.mem_append_left _ (List.mem_append_right _ h))
  have k2 := S.2.2.2.2 (.fieldLink RX1 12 "RhymeRoofs$Game" "rules" "LRhymeRoofs$Rules;") (by decide +kernel)
  have k3 := S.2.2.2.2 (.fieldLink RX1 86 "RhymeRoofs$Rules" "players" "I") (by decide +kernel)
  have iX4 : ∀ w ∈ wsX40, w ∈ wsX1_passTurn := fun _ h => List.mem_cons_of_mem _ (List.mem_append_right _ h)
  have jn30 : ∀ (s_3 : Int32) (I_4 : MI) (J_5 : MJ), f_X1_passTurn_J30 b Q s_3 I_4 J_5 → Wj p l e (rmX1_passTurn) s m args below meth c Qm E ps 1 I_4 J_5 30 [] [.int s_3, .ref (eA E b 0)] := by
    intro s_3 I_4 J_5 hf H locs ls hP hD hS hl
    unfold f_X1_passTurn_J30 at hf
    refine R_cVv (As := [.int s_3]) (rest := []) S (c_X1_endTurn (hB := hB) (hM := hM)  hf) gX1_passTurn_X1_endTurn rfl yk_X1_endTurn ⟨⟨Nat.le_of_ble_eq_true rfl, Nat.le_of_ble_eq_true rfl⟩, rfl, rfl⟩ hK hP hD hS hX hA (hM 0 (by decide)) (cF_g E hB _ _ 0) rfl rfl hl.1 rfl (Nat.le_of_ble_eq_true rfl) ⟨Nat.zero_le _, Nat.zero_le _⟩ dX1_passTurn_30 (fun I_6 J_7 H locs hf hP hD hS => ?_)
    exact hret hf hP hD hS dX1_passTurn_33
  intro H locs ls hP hD hS hl
  unfold f_X1_passTurn at hf
  refine lv_aload_n S.1 S.2.1 dX1_passTurn_0 rfl (lv_at hl 0 rfl) ?_
  refine lv_dup S.1 S.2.1 dX1_passTurn_1 rfl ?_
  refine gfX1_10 S iX1 hK hP hB (hM 0 (by decide)) k1 dX1_passTurn_2 ?_
  refine lv_iconst (v := 1) S.1 S.2.1 dX1_passTurn_5 rfl ?_
  refine lv_iadd S.1 S.2.1 dX1_passTurn_6 ?_
  refine nm_o hf (fun I_1 eI_1 hf => ?_)
  refine pfX1_10 S iX1 hK hP hD hS hB (hM 0 (by decide)) k1 dX1_passTurn_7 eI_1 (fun H locs hP hD hS => ?_)
  refine lv_aload_n S.1 S.2.1 dX1_passTurn_10 rfl (lv_at hl 0 rfl) ?_
  refine lv_aload_n S.1 S.2.1 dX1_passTurn_11 rfl (lv_at hl 0 rfl) ?_
  refine gfX1_10 S iX1 hK hP hB (hM 0 (by decide)) k1 dX1_passTurn_12 ?_
  refine lv_aload_n S.1 S.2.1 dX1_passTurn_15 rfl (lv_at hl 0 rfl) ?_
  refine gfX1_0 S iX1 hK hP hB (hM 0 (by decide)) k2 dX1_passTurn_16 ?_
  refine gfX4_4 S iX4 hK hP hB (hM 1 (by decide)) k3 dX1_passTurn_19 ?_
  refine lv_icmp_lt (tgt := 29) S.1 S.2.1 dX1_passTurn_22 (by decide) (fun h_2 => ?_) (fun h_2 => ?_)
  · have hf := hf.1 h_2
    refine lv_iconst (v := 0) S.1 S.2.1 dX1_passTurn_29 rfl ?_
    exact jn30 _ _ _ hf _ _ _ hP hD hS (lv_sub hl [] rfl)
  · have hf := hf.2 h_2
    refine lv_iconst (v := 1) S.1 S.2.1 dX1_passTurn_25 rfl ?_
    refine lv_goto (tgt := 30) S.1 S.2.1 dX1_passTurn_26 (by decide) ?_
    exact jn30 _ _ _ hf _ _ _ hP hD hS (lv_sub hl [] rfl)
abbrev rmX1_layWord : Room := { frames := 3, cells := 0, slots := 0, locals := 72 }
theorem yk_X1_layWord : yOk yX1_layWord RX1 2 := by unfold yOk; decide +kernel
def f_X1_layWord_J92 (b : Nat) (Q : Int32 → MI → MJ → Prop) (x5_26 : Int32) (s_27 : Int32) (I_28 : MI) (J_29 : MJ) : Prop :=
  f_X1_endTurn b s_27 I_28 J_29 (fun (I_30 : MI) (J_31 : MJ) => Q x5_26 I_30 J_31)
def f_X1_layWord (b : Nat) (x1 : Int32) (x2 : Int32) (I : MI) (J : MJ) (Q : Int32 → MI → MJ → Prop) : Prop :=
  f_X1_wordOf b (I b 0 9) x1 I J (fun (v_3 : Int64) (I_1 : MI) (J_2 : MJ) => f_X1_pointsFor b v_3 x2 I_1 J_2 (fun (v_6 : Int32) (I_4 : MI) (J_5 : MJ) => f_X1_putLetters b v_3 x2 I_4 J_5 (fun (I_7 : MI) (J_8 : MJ) => (vp_in x2 6 ∧ (vp_in x2 6 ∧ ∀ I_11 : MI, I_11 = sI I_7 b 9 x2.toNatClampNeg ((I_7 b 9 x2.toNatClampNeg) + (1 : Int32)) → (vp_in x2 6 ∧ ∀ J_13 : MJ, J_13 = sJ J_8 b 10 x2.toNatClampNeg v_3 → (vp_in x2 6 ∧ ∀ I_15 : MI, I_15 = sI I_11 b 11 x2.toNatClampNeg (I_11 b 0 9) → (vp_in (I_15 b 0 9) 4 ∧ (vp_in (I_15 b 0 9) 4 ∧ ∀ I_18 : MI, I_18 = sI I_15 b 14 (I_15 b 0 9).toNatClampNeg ((I_15 b 14 (I_15 b 0 9).toNatClampNeg) + v_6) → f_X1_removeWord b (I_18 b 0 9) x1 I_18 J_13 (fun (I_19 : MI) (J_20 : MJ) => ∀ I_21 : MI, I_21 = sI I_19 b 0 10 (0 : Int32) → f_X1_wordsOfHands b I_21 J_20 (fun (v_24 : Int32) (I_22 : MI) (J_23 : MJ) => ((v_24 = (0 : Int32) → f_X1_layWord_J92 b Q v_6 (1 : Int32) I_22 J_23) ∧ (¬ v_24 = (0 : Int32) → f_X1_layWord_J92 b Q v_6 (0 : Int32) I_22 J_23)))))))))))))
set_option maxRecDepth 100000 in
set_option maxHeartbeats 4000000 in
theorem c_X1_layWord {l : Launch} {E : EV} {ps : List (Nat × Nat)} {b : Nat} (hB : b < 11) (hM : ∀ r, r < 16 → (b, r) ∈ ps) {x1 : Int32} {x2 : Int32} {I : MI} {J : MJ} {Q : Int32 → MI → MJ → Prop} (hf : f_X1_layWord b x1 x2 I J Q) : KI l yX1_layWord wsX1_layWord rmX1_layWord E ps [.ref (eA E b 0), .int x1, .int x2] I J Q := by
  refine K_ofI (cc := cX1_layWord) (maxL := 6) (ty := .int) (by decide +kernel) rfl (Nat.le_of_ble_eq_true rfl) (fun p e s m args below meth c Qm hret S hK hX => ?_)
  have hA : ∀ q, s.heap.size ≤ q → AA E ps s.heap.size q := fun _ h => Or.inr h
  have k1 := S.2.2.2.2 (.fieldLink RX1 62 "RhymeRoofs$Game" "turn" "I") (by decide +kernel)
  have iX1 : ∀ w ∈ wsX10, w ∈ wsX1_layWord := fun _ h => List.mem_cons_of_mem _ (List.mem_append_left _ (List.mem_append_right _ h))
  have k2 := S.2.2.2.2 (.fieldLink RX1 25 "RhymeRoofs$Game" "wordsOn" "[I") (by decide +kernel)
  have k3 := S.2.2.2.2 (.fieldLink RX1 28 "RhymeRoofs$Game" "lastOn" "[J") (by decide +kernel)
  have k4 := S.2.2.2.2 (.fieldLink RX1 32 "RhymeRoofs$Game" "ownerOf" "[I") (by decide +kernel)
  have k5 := S.2.2.2.2 (.fieldLink RX1 41 "RhymeRoofs$Game" "points" "[I") (by decide +kernel)
  have k6 := S.2.2.2.2 (.fieldLink RX1 66 "RhymeRoofs$Game" "passes" "I") (by decide +kernel)
  have jn92 : ∀ (x5_26 : Int32) (s_27 : Int32) (I_28 : MI) (J_29 : MJ), f_X1_layWord_J92 b Q x5_26 s_27 I_28 J_29 → Wj p l e (rmX1_layWord) s m args below meth c Qm E ps 6 I_28 J_29 92 [(5, .int x5_26)] [.int s_27, .ref (eA E b 0)] := by
    intro x5_26 s_27 I_28 J_29 hf H locs ls hP hD hS hl
    unfold f_X1_layWord_J92 at hf
    refine R_cVv (As := [.int s_27]) (rest := []) S (c_X1_endTurn (hB := hB) (hM := hM)  hf) gX1_layWord_X1_endTurn rfl yk_X1_endTurn ⟨⟨Nat.le_of_ble_eq_true rfl, Nat.le_of_ble_eq_true rfl⟩, rfl, rfl⟩ hK hP hD hS hX hA (hM 0 (by decide)) (cF_g E hB _ _ 0) rfl rfl hl.1 rfl (Nat.le_of_ble_eq_true rfl) ⟨Nat.zero_le _, Nat.zero_le _⟩ dX1_layWord_92 (fun I_30 J_31 H locs hf hP hD hS => ?_)
    refine lv_iload S.1 S.2.1 dX1_layWord_95 (lv_at hl 0 rfl) ?_
    exact hret hf rfl hP hD hS dX1_layWord_97
  intro H locs ls hP hD hS hl
  unfold f_X1_layWord at hf
  refine lv_aload_n S.1 S.2.1 dX1_layWord_0 rfl (lv_at hl 0 rfl) ?_
  refine lv_aload_n S.1 S.2.1 dX1_layWord_1 rfl (lv_at hl 0 rfl) ?_
  refine gfX1_9 S iX1 hK hP hB (hM 0 (by decide)) k1 dX1_layWord_2 ?_
  refine lv_iload_n S.1 S.2.1 dX1_layWord_5 rfl (lv_at hl 1 rfl) ?_
  refine R_cVl (As := [.int (I b 0 9), .int x1]) (rest := []) S (c_X1_wordOf (hB := hB) (hM := hM)  hf) gX1_layWord_X1_wordOf rfl yk_X1_wordOf ⟨⟨Nat.le_of_ble_eq_true rfl, Nat.le_of_ble_eq_true rfl⟩, rfl, rfl⟩ hK hP hD hS hX hA (hM 0 (by decide)) (cF_g E hB _ _ 0) rfl rfl hl.1 rfl (Nat.le_of_ble_eq_true rfl) ⟨Nat.zero_le _, Nat.zero_le _⟩ dX1_layWord_6 (fun v_3 I_1 J_2 H locs hf hP hD hS => ?_)
  refine lv_lstore_n (lv' := [(3, .long v_3), (0, .ref (eA E b 0)), (1, .int x1), (2, .int x2)]) S.1 S.2.1 dX1_layWord_9 rfl hl (by decide) rfl (fun ls hl => ?_)
  refine lv_aload_n S.1 S.2.1 dX1_layWord_10 rfl (lv_at hl 1 rfl) ?_
  refine lv_lload_n S.1 S.2.1 dX1_layWord_11 rfl (lv_at hl 0 rfl) ?_
  refine lv_iload_n S.1 S.2.1 dX1_layWord_12 rfl (lv_at hl 3 rfl) ?_
  refine R_cVi (As := [.long v_3, .int x2]) (rest := []) S (c_X1_pointsFor (hB := hB) (hM := hM)  hf) gX1_layWord_X1_pointsFor rfl yk_X1_pointsFor ⟨⟨Nat.le_of_ble_eq_true rfl, Nat.le_of_ble_eq_true rfl⟩, rfl, rfl⟩ hK hP hD hS hX hA (hM 0 (by decide)) (cF_g E hB _ _ 0) rfl rfl hl.1 rfl (Nat.le_of_ble_eq_true rfl) ⟨Nat.zero_le _, Nat.zero_le _⟩ dX1_layWord_13 (fun v_6 I_4 J_5 H locs hf hP hD hS => ?_)
  refine lv_istore (lv' := [(5, .int v_6), (3, .long v_3), (0, .ref (eA E b 0)), (1, .int x1), (2, .int x2)]) S.1 S.2.1 dX1_layWord_16 hl (by decide) rfl (fun ls hl => ?_)
  refine lv_aload_n S.1 S.2.1 dX1_layWord_18 rfl (lv_at hl 2 rfl) ?_
  refine lv_lload_n S.1 S.2.1 dX1_layWord_19 rfl (lv_at hl 1 rfl) ?_
  refine lv_iload_n S.1 S.2.1 dX1_layWord_20 rfl (lv_at hl 4 rfl) ?_
  refine R_cVv (As := [.long v_3, .int x2]) (rest := []) S (c_X1_putLetters (hB := hB) (hM := hM)  hf) gX1_layWord_X1_putLetters rfl yk_X1_putLetters ⟨⟨Nat.le_of_ble_eq_true rfl, Nat.le_of_ble_eq_true rfl⟩, rfl, rfl⟩ hK hP hD hS hX hA (hM 0 (by decide)) (cF_g E hB _ _ 0) rfl rfl hl.1 rfl (Nat.le_of_ble_eq_true rfl) ⟨Nat.zero_le _, Nat.zero_le _⟩ dX1_layWord_21 (fun I_7 J_8 H locs hf hP hD hS => ?_)
  refine lv_aload_n S.1 S.2.1 dX1_layWord_24 rfl (lv_at hl 2 rfl) ?_
  refine gfX1_3 S iX1 hK hP hB (hM 0 (by decide)) k2 dX1_layWord_25 ?_
  refine lv_iload_n S.1 S.2.1 dX1_layWord_28 rfl (lv_at hl 4 rfl) ?_
  refine lv_dup2_11 S.1 S.2.1 dX1_layWord_29 rfl rfl ?_
  obtain ⟨h_9, hf⟩ := hf
  refine R_iald S.1 S.2.1 hK hP (hM 9 (by decide)) (IAg9 E hB) h_9 dX1_layWord_30 ?_
  refine lv_iconst (v := 1) S.1 S.2.1 dX1_layWord_31 rfl ?_
  refine lv_iadd S.1 S.2.1 dX1_layWord_32 ?_
  obtain ⟨h_10, hf⟩ := hf
  refine nm_o hf (fun I_11 eI_11 hf => ?_)
  refine R_iast S.1 S.2.1 hK hP hD hS (hM 9 (by decide)) (IAg9 E hB) h_10 dX1_layWord_33 eI_11 (fun H locs hP hD hS => ?_)
  refine lv_aload_n S.1 S.2.1 dX1_layWord_34 rfl (lv_at hl 2 rfl) ?_
  refine gfX1_4 S iX1 hK hP hB (hM 0 (by decide)) k3 dX1_layWord_35 ?_
  refine lv_iload_n S.1 S.2.1 dX1_layWord_38 rfl (lv_at hl 4 rfl) ?_
  refine lv_lload_n S.1 S.2.1 dX1_layWord_39 rfl (lv_at hl 1 rfl) ?_
  obtain ⟨h_12, hf⟩ := hf
  refine nm_o hf (fun J_13 eJ_13 hf => ?_)
  refine R_last S.1 S.2.1 hK hP hD hS (hM 10 (by decide)) (LAg10 E hB) h_12 dX1_layWord_40 eJ_13 (fun H locs hP hD hS => ?_)
  refine lv_aload_n S.1 S.2.1 dX1_layWord_41 rfl (lv_at hl 2 rfl) ?_
  refine gfX1_5 S iX1 hK hP hB (hM 0 (by decide)) k4 dX1_layWord_42 ?_
  refine lv_iload_n S.1 S.2.1 dX1_layWord_45 rfl (lv_at hl 4 rfl) ?_
  refine lv_aload_n S.1 S.2.1 dX1_layWord_46 rfl (lv_at hl 2 rfl) ?_
  refine gfX1_9 S iX1 hK hP hB (hM 0 (by decide)) k1 dX1_layWord_47 ?_
  obtain ⟨h_14, hf⟩ := hf
  refine nm_o hf (fun I_15 eI_15 hf => ?_)
  refine R_iast S.1 S.2.1 hK hP hD hS (hM 11 (by decide)) (IAg11 E hB) h_14 dX1_layWord_50 eI_15 (fun H locs hP hD hS => ?_)
  refine lv_aload_n S.1 S.2.1 dX1_layWord_51 rfl (lv_at hl 2 rfl) ?_
  refine gfX1_8 S iX1 hK hP hB (hM 0 (by decide)) k5 dX1_layWord_52 ?_
  refine lv_aload_n S.1 S.2.1 dX1_layWord_55 rfl (lv_at hl 2 rfl) ?_
  refine gfX1_9 S iX1 hK hP hB (hM 0 (by decide)) k1 dX1_layWord_56 ?_
  refine lv_dup2_11 S.1 S.2.1 dX1_layWord_59 rfl rfl ?_
  obtain ⟨h_16, hf⟩ := hf
  refine R_iald S.1 S.2.1 hK hP (hM 14 (by decide)) (IAg14 E hB) h_16 dX1_layWord_60 ?_
  refine lv_iload S.1 S.2.1 dX1_layWord_61 (lv_at hl 0 rfl) ?_
  refine lv_iadd S.1 S.2.1 dX1_layWord_63 ?_
  obtain ⟨h_17, hf⟩ := hf
  refine nm_o hf (fun I_18 eI_18 hf => ?_)
  refine R_iast S.1 S.2.1 hK hP hD hS (hM 14 (by decide)) (IAg14 E hB) h_17 dX1_layWord_64 eI_18 (fun H locs hP hD hS => ?_)
  refine lv_aload_n S.1 S.2.1 dX1_layWord_65 rfl (lv_at hl 2 rfl) ?_
  refine lv_aload_n S.1 S.2.1 dX1_layWord_66 rfl (lv_at hl 2 rfl) ?_
  refine gfX1_9 S iX1 hK hP hB (hM 0 (by decide)) k1 dX1_layWord_67 ?_
  refine lv_iload_n S.1 S.2.1 dX1_layWord_70 rfl (lv_at hl 3 rfl) ?_
  refine R_cVv (As := [.int (I_18 b 0 9), .int x1]) (rest := []) S (c_X1_removeWord (hB := hB) (hM := hM)  hf) gX1_layWord_X1_removeWord rfl yk_X1_removeWord ⟨⟨Nat.le_of_ble_eq_true rfl, Nat.le_of_ble_eq_true rfl⟩, rfl, rfl⟩ hK hP hD hS hX hA (hM 0 (by decide)) (cF_g E hB _ _ 0) rfl rfl hl.1 rfl (Nat.le_of_ble_eq_true rfl) ⟨Nat.zero_le _, Nat.zero_le _⟩ dX1_layWord_71 (fun I_19 J_20 H locs hf hP hD hS => ?_)
  refine lv_aload_n S.1 S.2.1 dX1_layWord_74 rfl (lv_at hl 2 rfl) ?_
  refine lv_iconst (v := 0) S.1 S.2.1 dX1_layWord_75 rfl ?_
  refine nm_o hf (fun I_21 eI_21 hf => ?_)
  refine pfX1_10 S iX1 hK hP hD hS hB (hM 0 (by decide)) k6 dX1_layWord_76 eI_21 (fun H locs hP hD hS => ?_)
  refine lv_aload_n S.1 S.2.1 dX1_layWord_79 rfl (lv_at hl 2 rfl) ?_
  refine lv_aload_n S.1 S.2.1 dX1_layWord_80 rfl (lv_at hl 2 rfl) ?_
  refine R_cVi (As := []) (rest := [.ref (eA E b 0)]) S (c_X1_wordsOfHands (hB := hB) (hM := hM)  hf) gX1_layWord_X1_wordsOfHands rfl yk_X1_wordsOfHands ⟨⟨Nat.le_of_ble_eq_true rfl, Nat.le_of_ble_eq_true rfl⟩, rfl, rfl⟩ hK hP hD hS hX hA (hM 0 (by decide)) (cF_g E hB _ _ 0) rfl rfl hl.1 rfl (Nat.le_of_ble_eq_true rfl) ⟨Nat.zero_le _, Nat.zero_le _⟩ dX1_layWord_81 (fun v_24 I_22 J_23 H locs hf hP hD hS => ?_)
  refine lv_if_ne (tgt := 91) S.1 S.2.1 dX1_layWord_84 (by decide) (fun h_25 => ?_) (fun h_25 => ?_)
  · have hf := hf.2 h_25
    refine lv_iconst (v := 0) S.1 S.2.1 dX1_layWord_91 rfl ?_
    exact jn92 _ _ _ _ hf _ _ _ hP hD hS (lv_sub hl [0] rfl)
  · have hf := hf.1 h_25
    refine lv_iconst (v := 1) S.1 S.2.1 dX1_layWord_87 rfl ?_
    refine lv_goto (tgt := 92) S.1 S.2.1 dX1_layWord_88 (by decide) ?_
    exact jn92 _ _ _ _ hf _ _ _ hP hD hS (lv_sub hl [0] rfl)
abbrev rmX1_stateNumber : Room := { frames := 4, cells := 0, slots := 0, locals := 97 }
theorem yk_X1_stateNumber : yOk yX1_stateNumber RX1 1 := by unfold yOk; decide +kernel
def f_X1_stateNumber (b : Nat) (x1 : Int32) (I : MI) (J : MJ) (Q : Int32 → MI → MJ → Prop) : Prop :=
  ((x1 = (0 : Int32) → Q (I b 1 3) I J) ∧ (¬ x1 = (0 : Int32) → ((x1 = (1 : Int32) → Q (I b 1 4) I J) ∧ (¬ x1 = (1 : Int32) → ((x1 = (2 : Int32) → Q (I b 1 5) I J) ∧ (¬ x1 = (2 : Int32) → ((x1 = (3 : Int32) → Q (I b 1 6) I J) ∧ (¬ x1 = (3 : Int32) → ((x1 = (4 : Int32) → Q (I b 1 7) I J) ∧ (¬ x1 = (4 : Int32) → ((x1 = (5 : Int32) → Q (I b 0 9) I J) ∧ (¬ x1 = (5 : Int32) → ((x1 = (6 : Int32) → (((I b 0 11) = (0 : Int32) → Q (0 : Int32) I J) ∧ (¬ (I b 0 11) = (0 : Int32) → Q (1 : Int32) I J))) ∧ (¬ x1 = (6 : Int32) → ((x1 = (7 : Int32) → Q (I b 0 10) I J) ∧ (¬ x1 = (7 : Int32) → ((x1 = (8 : Int32) → f_X1_wordsOnRows b I J (fun (v_5 : Int32) (I_3 : MI) (J_4 : MJ) => Q v_5 I_3 J_4)) ∧ (¬ x1 = (8 : Int32) → ((x1 = (9 : Int32) → f_X1_filledRows b I J (fun (v_8 : Int32) (I_6 : MI) (J_7 : MJ) => Q v_8 I_6 J_7)) ∧ (¬ x1 = (9 : Int32) → ((x1 = (10 : Int32) → f_X1_playsNow b I J (fun (v_11 : Int32) (I_9 : MI) (J_10 : MJ) => Q v_11 I_9 J_10)) ∧ (¬ x1 = (10 : Int32) → f_X1_wordsOfHands b I J (fun (v_14 : Int32) (I_12 : MI) (J_13 : MJ) => Q v_14 I_12 J_13)))))))))))))))))))))))
set_option maxRecDepth 100000 in
set_option maxHeartbeats 4000000 in
theorem c_X1_stateNumber {l : Launch} {E : EV} {ps : List (Nat × Nat)} {b : Nat} (hB : b < 11) (hM : ∀ r, r < 16 → (b, r) ∈ ps) {x1 : Int32} {I : MI} {J : MJ} {Q : Int32 → MI → MJ → Prop} (hf : f_X1_stateNumber b x1 I J Q) : KI l yX1_stateNumber wsX1_stateNumber rmX1_stateNumber E ps [.ref (eA E b 0), .int x1] I J Q := by
  refine K_ofI (cc := cX1_stateNumber) (maxL := 2) (ty := .int) (by decide +kernel) rfl (Nat.le_of_ble_eq_true rfl) (fun p e s m args below meth c Qm hret S hK hX => ?_)
  have hA : ∀ q, s.heap.size ≤ q → AA E ps s.heap.size q := fun _ h => Or.inr h
  have k1 := S.2.2.2.2 (.fieldLink RX1 12 "RhymeRoofs$Game" "rules" "LRhymeRoofs$Rules;") (by decide +kernel)
  have iX1 : ∀ w ∈ wsX10, w ∈ wsX1_stateNumber := fun _ h => List.mem_cons_of_mem _ (List.mem_append_left _ (List.mem_append_right _ h))
  have k2 := S.2.2.2.2 (.fieldLink RX1 83 "RhymeRoofs$Rules" "rows" "I") (by decide +kernel)
  have iX4 : ∀ w ∈ wsX40, w ∈ wsX1_stateNumber := fun _ h => List.mem_cons_of_mem _ (List.mem_append_right _ h)
  have k3 := S.2.2.2.2 (.fieldLink RX1 86 "RhymeRoofs$Rules" "players" "I") (by decide +kernel)
  have k4 := S.2.2.2.2 (.fieldLink RX1 89 "RhymeRoofs$Rules" "need" "I") (by decide +kernel)
  have k5 := S.2.2.2.2 (.fieldLink RX1 92 "RhymeRoofs$Rules" "bonus" "I") (by decide +kernel)
  have k6 := S.2.2.2.2 (.fieldLink RX1 95 "RhymeRoofs$Rules" "crown" "I") (by decide +kernel)
  have k7 := S.2.2.2.2 (.fieldLink RX1 62 "RhymeRoofs$Game" "turn" "I") (by decide +kernel)
  have k8 := S.2.2.2.2 (.fieldLink RX1 69 "RhymeRoofs$Game" "over" "Z") (by decide +kernel)
  have k9 := S.2.2.2.2 (.fieldLink RX1 66 "RhymeRoofs$Game" "passes" "I") (by decide +kernel)
  intro H locs ls hP hD hS hl
  unfold f_X1_stateNumber at hf
  refine lv_iload_n S.1 S.2.1 dX1_stateNumber_0 rfl (lv_at hl 1 rfl) ?_
  refine Classical.byCases (p := x1 = (0 : Int32)) (fun h_1 => ?_) (fun h_1_0 => ?_)
  · have hf := hf.1 h_1
    refine R_swIn (tgt := 60) (off := 59) S.1 S.2.1 dX1_stateNumber_1 h_1 (by decide) (by decide) ?_
    refine lv_aload_n S.1 S.2.1 dX1_stateNumber_60 rfl (lv_at hl 0 rfl) ?_
    refine gfX1_0 S iX1 hK hP hB (hM 0 (by decide)) k1 dX1_stateNumber_61 ?_
    refine gfX4_3 S iX4 hK hP hB (hM 1 (by decide)) k2 dX1_stateNumber_64 ?_
    exact hret hf rfl hP hD hS dX1_stateNumber_67
  have hf := hf.2 h_1_0
  refine Classical.byCases (p := x1 = (1 : Int32)) (fun h_1 => ?_) (fun h_1_1 => ?_)
  · have hf := hf.1 h_1
    refine R_swIn (tgt := 68) (off := 67) S.1 S.2.1 dX1_stateNumber_1 h_1 (by decide) (by decide) ?_
    refine lv_aload_n S.1 S.2.1 dX1_stateNumber_68 rfl (lv_at hl 0 rfl) ?_
    refine gfX1_0 S iX1 hK hP hB (hM 0 (by decide)) k1 dX1_stateNumber_69 ?_
    refine gfX4_4 S iX4 hK hP hB (hM 1 (by decide)) k3 dX1_stateNumber_72 ?_
    exact hret hf rfl hP hD hS dX1_stateNumber_75
  have hf := hf.2 h_1_1
  refine Classical.byCases (p := x1 = (2 : Int32)) (fun h_1 => ?_) (fun h_1_2 => ?_)
  · have hf := hf.1 h_1
    refine R_swIn (tgt := 76) (off := 75) S.1 S.2.1 dX1_stateNumber_1 h_1 (by decide) (by decide) ?_
    refine lv_aload_n S.1 S.2.1 dX1_stateNumber_76 rfl (lv_at hl 0 rfl) ?_
    refine gfX1_0 S iX1 hK hP hB (hM 0 (by decide)) k1 dX1_stateNumber_77 ?_
    refine gfX4_5 S iX4 hK hP hB (hM 1 (by decide)) k4 dX1_stateNumber_80 ?_
    exact hret hf rfl hP hD hS dX1_stateNumber_83
  have hf := hf.2 h_1_2
  refine Classical.byCases (p := x1 = (3 : Int32)) (fun h_1 => ?_) (fun h_1_3 => ?_)
  · have hf := hf.1 h_1
    refine R_swIn (tgt := 84) (off := 83) S.1 S.2.1 dX1_stateNumber_1 h_1 (by decide) (by decide) ?_
    refine lv_aload_n S.1 S.2.1 dX1_stateNumber_84 rfl (lv_at hl 0 rfl) ?_
    refine gfX1_0 S iX1 hK hP hB (hM 0 (by decide)) k1 dX1_stateNumber_85 ?_
    refine gfX4_6 S iX4 hK hP hB (hM 1 (by decide)) k5 dX1_stateNumber_88 ?_
    exact hret hf rfl hP hD hS dX1_stateNumber_91
  have hf := hf.2 h_1_3
  refine Classical.byCases (p := x1 = (4 : Int32)) (fun h_1 => ?_) (fun h_1_4 => ?_)
  · have hf := hf.1 h_1
    refine R_swIn (tgt := 92) (off := 91) S.1 S.2.1 dX1_stateNumber_1 h_1 (by decide) (by decide) ?_
    refine lv_aload_n S.1 S.2.1 dX1_stateNumber_92 rfl (lv_at hl 0 rfl) ?_
    refine gfX1_0 S iX1 hK hP hB (hM 0 (by decide)) k1 dX1_stateNumber_93 ?_
    refine gfX4_7 S iX4 hK hP hB (hM 1 (by decide)) k6 dX1_stateNumber_96 ?_
    exact hret hf rfl hP hD hS dX1_stateNumber_99
  have hf := hf.2 h_1_4
  refine Classical.byCases (p := x1 = (5 : Int32)) (fun h_1 => ?_) (fun h_1_5 => ?_)
  · have hf := hf.1 h_1
    refine R_swIn (tgt := 100) (off := 99) S.1 S.2.1 dX1_stateNumber_1 h_1 (by decide) (by decide) ?_
    refine lv_aload_n S.1 S.2.1 dX1_stateNumber_100 rfl (lv_at hl 0 rfl) ?_
    refine gfX1_9 S iX1 hK hP hB (hM 0 (by decide)) k7 dX1_stateNumber_101 ?_
    exact hret hf rfl hP hD hS dX1_stateNumber_104
  have hf := hf.2 h_1_5
  refine Classical.byCases (p := x1 = (6 : Int32)) (fun h_1 => ?_) (fun h_1_6 => ?_)
  · have hf := hf.1 h_1
    refine R_swIn (tgt := 105) (off := 104) S.1 S.2.1 dX1_stateNumber_1 h_1 (by decide) (by decide) ?_
    refine lv_aload_n S.1 S.2.1 dX1_stateNumber_105 rfl (lv_at hl 0 rfl) ?_
    refine gfX1_11 S iX1 hK hP hB (hM 0 (by decide)) k8 dX1_stateNumber_106 ?_
    refine lv_if_eq (tgt := 116) S.1 S.2.1 dX1_stateNumber_109 (by decide) (fun h_2 => ?_) (fun h_2 => ?_)
    · have hf := hf.1 h_2
      refine lv_iconst (v := 0) S.1 S.2.1 dX1_stateNumber_116 rfl ?_
      exact hret hf rfl hP hD hS dX1_stateNumber_117
    · have hf := hf.2 h_2
      refine lv_iconst (v := 1) S.1 S.2.1 dX1_stateNumber_112 rfl ?_
      refine lv_goto (tgt := 117) S.1 S.2.1 dX1_stateNumber_113 (by decide) ?_
      exact hret hf rfl hP hD hS dX1_stateNumber_117
  have hf := hf.2 h_1_6
  refine Classical.byCases (p := x1 = (7 : Int32)) (fun h_1 => ?_) (fun h_1_7 => ?_)
  · have hf := hf.1 h_1
    refine R_swIn (tgt := 118) (off := 117) S.1 S.2.1 dX1_stateNumber_1 h_1 (by decide) (by decide) ?_
    refine lv_aload_n S.1 S.2.1 dX1_stateNumber_118 rfl (lv_at hl 0 rfl) ?_
    refine gfX1_10 S iX1 hK hP hB (hM 0 (by decide)) k9 dX1_stateNumber_119 ?_
    exact hret hf rfl hP hD hS dX1_stateNumber_122
  have hf := hf.2 h_1_7
  refine Classical.byCases (p := x1 = (8 : Int32)) (fun h_1 => ?_) (fun h_1_8 => ?_)
  · have hf := hf.1 h_1
    refine R_swIn (tgt := 123) (off := 122) S.1 S.2.1 dX1_stateNumber_1 h_1 (by decide) (by decide) ?_
    refine lv_aload_n S.1 S.2.1 dX1_stateNumber_123 rfl (lv_at hl 0 rfl) ?_
    refine R_cVi (As := []) (rest := []) S (c_X1_wordsOnRows (hB := hB) (hM := hM)  hf) gX1_stateNumber_X1_wordsOnRows rfl yk_X1_wordsOnRows ⟨⟨Nat.le_of_ble_eq_true rfl, Nat.le_of_ble_eq_true rfl⟩, rfl, rfl⟩ hK hP hD hS hX hA (hM 0 (by decide)) (cF_g E hB _ _ 0) rfl rfl hl.1 rfl (Nat.le_of_ble_eq_true rfl) ⟨Nat.zero_le _, Nat.zero_le _⟩ dX1_stateNumber_124 (fun v_5 I_3 J_4 H locs hf hP hD hS => ?_)
    exact hret hf rfl hP hD hS dX1_stateNumber_127
  have hf := hf.2 h_1_8
  refine Classical.byCases (p := x1 = (9 : Int32)) (fun h_1 => ?_) (fun h_1_9 => ?_)
  · have hf := hf.1 h_1
    refine R_swIn (tgt := 128) (off := 127) S.1 S.2.1 dX1_stateNumber_1 h_1 (by decide) (by decide) ?_
    refine lv_aload_n S.1 S.2.1 dX1_stateNumber_128 rfl (lv_at hl 0 rfl) ?_
    refine R_cVi (As := []) (rest := []) S (c_X1_filledRows (hB := hB) (hM := hM)  hf) gX1_stateNumber_X1_filledRows rfl yk_X1_filledRows ⟨⟨Nat.le_of_ble_eq_true rfl, Nat.le_of_ble_eq_true rfl⟩, rfl, rfl⟩ hK hP hD hS hX hA (hM 0 (by decide)) (cF_g E hB _ _ 0) rfl rfl hl.1 rfl (Nat.le_of_ble_eq_true rfl) ⟨Nat.zero_le _, Nat.zero_le _⟩ dX1_stateNumber_129 (fun v_8 I_6 J_7 H locs hf hP hD hS => ?_)
    exact hret hf rfl hP hD hS dX1_stateNumber_132
  have hf := hf.2 h_1_9
  refine Classical.byCases (p := x1 = (10 : Int32)) (fun h_1 => ?_) (fun h_1_10 => ?_)
  · have hf := hf.1 h_1
    refine R_swIn (tgt := 133) (off := 132) S.1 S.2.1 dX1_stateNumber_1 h_1 (by decide) (by decide) ?_
    refine lv_aload_n S.1 S.2.1 dX1_stateNumber_133 rfl (lv_at hl 0 rfl) ?_
    refine R_cVi (As := []) (rest := []) S (c_X1_playsNow (hB := hB) (hM := hM)  hf) gX1_stateNumber_X1_playsNow rfl yk_X1_playsNow ⟨⟨Nat.le_of_ble_eq_true rfl, Nat.le_of_ble_eq_true rfl⟩, rfl, rfl⟩ hK hP hD hS hX hA (hM 0 (by decide)) (cF_g E hB _ _ 0) rfl rfl hl.1 rfl (Nat.le_of_ble_eq_true rfl) ⟨Nat.zero_le _, Nat.zero_le _⟩ dX1_stateNumber_134 (fun v_11 I_9 J_10 H locs hf hP hD hS => ?_)
    exact hret hf rfl hP hD hS dX1_stateNumber_137
  have hf := hf.2 h_1_10
  refine lv_tableOut (tgt := 138) S.1 S.2.1 dX1_stateNumber_1 (by have q0 := ne_I (z := 0) h_1_0 (by decide); have q1 := ne_I (z := 1) h_1_1 (by decide); have q2 := ne_I (z := 2) h_1_2 (by decide); have q3 := ne_I (z := 3) h_1_3 (by decide); have q4 := ne_I (z := 4) h_1_4 (by decide); have q5 := ne_I (z := 5) h_1_5 (by decide); have q6 := ne_I (z := 6) h_1_6 (by decide); have q7 := ne_I (z := 7) h_1_7 (by decide); have q8 := ne_I (z := 8) h_1_8 (by decide); have q9 := ne_I (z := 9) h_1_9 (by decide); have q10 := ne_I (z := 10) h_1_10 (by decide); omega) (by decide) ?_
  refine lv_aload_n S.1 S.2.1 dX1_stateNumber_138 rfl (lv_at hl 0 rfl) ?_
  refine R_cVi (As := []) (rest := []) S (c_X1_wordsOfHands (hB := hB) (hM := hM)  hf) gX1_stateNumber_X1_wordsOfHands rfl yk_X1_wordsOfHands ⟨⟨Nat.le_of_ble_eq_true rfl, Nat.le_of_ble_eq_true rfl⟩, rfl, rfl⟩ hK hP hD hS hX hA (hM 0 (by decide)) (cF_g E hB _ _ 0) rfl rfl hl.1 rfl (Nat.le_of_ble_eq_true rfl) ⟨Nat.zero_le _, Nat.zero_le _⟩ dX1_stateNumber_139 (fun v_14 I_12 J_13 H locs hf hP hD hS => ?_)
  exact hret hf rfl hP hD hS dX1_stateNumber_142
abbrev rmX1_stepByRank : Room := { frames := 4, cells := 0, slots := 0, locals := 105 }
theorem yk_X1_stepByRank : yOk yX1_stepByRank RX1 0 := by unfold yOk; decide +kernel
def f_X1_stepByRank (b : Nat) (I : MI) (J : MJ) (Q : MI → MJ → Prop) : Prop :=
  f_X1_bestPlay b I J (fun (v_3 : Int32) (I_1 : MI) (J_2 : MJ) => ((v_3 = (-1 : Int32) → f_X1_passTurn b I_1 J_2 (fun (I_10 : MI) (J_11 : MJ) => Q I_10 J_11)) ∧ (¬ v_3 = (-1 : Int32) → (¬ (10 : Int32) = 0 ∧ (¬ (10 : Int32) = 0 ∧ f_X1_layWord b (v_3 / (10 : Int32)) (v_3 - v_3 / (10 : Int32) * (10 : Int32)) I_1 J_2 (fun (v_9 : Int32) (I_7 : MI) (J_8 : MJ) => Q I_7 J_8))))))
set_option maxRecDepth 100000 in
set_option maxHeartbeats 4000000 in
theorem c_X1_stepByRank {l : Launch} {E : EV} {ps : List (Nat × Nat)} {b : Nat} (hB : b < 11) (hM : ∀ r, r < 16 → (b, r) ∈ ps) {I : MI} {J : MJ} {Q : MI → MJ → Prop} (hf : f_X1_stepByRank b I J Q) : KV l yX1_stepByRank wsX1_stepByRank rmX1_stepByRank E ps [.ref (eA E b 0)] I J Q := by
  refine K_ofV (cc := cX1_stepByRank) (maxL := 2) (by decide +kernel) rfl (Nat.le_of_ble_eq_true rfl) (fun p e s m args below meth c Qm hret S hK hX => ?_)
  have hA : ∀ q, s.heap.size ≤ q → AA E ps s.heap.size q := fun _ h => Or.inr h
  intro H locs ls hP hD hS hl
  unfold f_X1_stepByRank at hf
  refine lv_aload_n S.1 S.2.1 dX1_stepByRank_0 rfl (lv_at hl 0 rfl) ?_
  refine R_cVi (As := []) (rest := []) S (c_X1_bestPlay (hB := hB) (hM := hM)  hf) gX1_stepByRank_X1_bestPlay rfl yk_X1_bestPlay ⟨⟨Nat.le_of_ble_eq_true rfl, Nat.le_of_ble_eq_true rfl⟩, rfl, rfl⟩ hK hP hD hS hX hA (hM 0 (by decide)) (cF_g E hB _ _ 0) rfl rfl hl.1 rfl (Nat.le_of_ble_eq_true rfl) ⟨Nat.zero_le _, Nat.zero_le _⟩ dX1_stepByRank_1 (fun v_3 I_1 J_2 H locs hf hP hD hS => ?_)
  refine lv_istore_n (lv' := [(1, .int v_3), (0, .ref (eA E b 0))]) S.1 S.2.1 dX1_stepByRank_4 rfl hl (by decide) rfl (fun ls hl => ?_)
  refine lv_iload_n S.1 S.2.1 dX1_stepByRank_5 rfl (lv_at hl 0 rfl) ?_
  refine lv_iconst (v := (-1)) S.1 S.2.1 dX1_stepByRank_6 rfl ?_
  refine lv_icmp_ne (tgt := 17) S.1 S.2.1 dX1_stepByRank_7 (by decide) (fun h_4 => ?_) (fun h_4 => ?_)
  · have hf := hf.2 h_4
    refine lv_aload_n S.1 S.2.1 dX1_stepByRank_17 rfl (lv_at hl 1 rfl) ?_
    refine lv_iload_n S.1 S.2.1 dX1_stepByRank_18 rfl (lv_at hl 0 rfl) ?_
    refine lv_bipush (v := 10) S.1 S.2.1 dX1_stepByRank_19 rfl ?_
    obtain ⟨h_5, hf⟩ := hf
    refine lv_idiv S.1 S.2.1 dX1_stepByRank_21 h_5 ?_
    refine lv_iload_n S.1 S.2.1 dX1_stepByRank_22 rfl (lv_at hl 0 rfl) ?_
    refine lv_bipush (v := 10) S.1 S.2.1 dX1_stepByRank_23 rfl ?_
    obtain ⟨h_6, hf⟩ := hf
    refine lv_irem S.1 S.2.1 dX1_stepByRank_25 h_6 ?_
    refine R_cVi (As := [.int (v_3 / (10 : Int32)), .int (v_3 - v_3 / (10 : Int32) * (10 : Int32))]) (rest := []) S (c_X1_layWord (hB := hB) (hM := hM)  hf) gX1_stepByRank_X1_layWord rfl yk_X1_layWord ⟨⟨Nat.le_of_ble_eq_true rfl, Nat.le_of_ble_eq_true rfl⟩, rfl, rfl⟩ hK hP hD hS hX hA (hM 0 (by decide)) (cF_g E hB _ _ 0) rfl rfl hl.1 rfl (Nat.le_of_ble_eq_true rfl) ⟨Nat.zero_le _, Nat.zero_le _⟩ dX1_stepByRank_26 (fun v_9 I_7 J_8 H locs hf hP hD hS => ?_)
    refine lv_pop S.1 S.2.1 dX1_stepByRank_29 rfl ?_
    exact hret hf hP hD hS dX1_stepByRank_30
  · have hf := hf.1 h_4
    refine lv_aload_n S.1 S.2.1 dX1_stepByRank_10 rfl (lv_at hl 1 rfl) ?_
    refine R_cVv (As := []) (rest := []) S (c_X1_passTurn (hB := hB) (hM := hM)  hf) gX1_stepByRank_X1_passTurn rfl yk_X1_passTurn ⟨⟨Nat.le_of_ble_eq_true rfl, Nat.le_of_ble_eq_true rfl⟩, rfl, rfl⟩ hK hP hD hS hX hA (hM 0 (by decide)) (cF_g E hB _ _ 0) rfl rfl hl.1 rfl (Nat.le_of_ble_eq_true rfl) ⟨Nat.zero_le _, Nat.zero_le _⟩ dX1_stepByRank_11 (fun I_10 J_11 H locs hf hP hD hS => ?_)
    refine lv_goto (tgt := 30) S.1 S.2.1 dX1_stepByRank_14 (by decide) ?_
    exact hret hf hP hD hS dX1_stepByRank_30
abbrev rmX1_playOn : Room := { frames := 5, cells := 0, slots := 0, locals := 126 }
theorem yk_X1_playOn : yOk yX1_playOn RX1 1 := by unfold yOk; decide +kernel
def f_X1_playOn_B2 (b : Nat) (x1_1 : Int32) (K24 : Int32 → MI → MJ → Prop) (rec2 : Int32 → MI → MJ → Prop) (x2_2 : Int32) (I_3 : MI) (J_4 : MJ) : Prop :=
  (((I_3 b 0 11) = (0 : Int32) → ((x1_1 ≤ x2_2 → K24 x2_2 I_3 J_4) ∧ (¬ x1_1 ≤ x2_2 → f_X1_stepByRank b I_3 J_4 (fun (I_7 : MI) (J_8 : MJ) => ∀ x2_9 : Int32, x2_9 = x2_2 + (1 : Int32) → rec2 x2_9 I_7 J_8)))) ∧ (¬ (I_3 b 0 11) = (0 : Int32) → K24 x2_2 I_3 J_4))
def f_X1_playOn_L2 (b : Nat) (x1_1 : Int32) (K24 : Int32 → MI → MJ → Prop) : Nat → Int32 → MI → MJ → Prop
  | 0, _, _, _ => False
  | n + 1, x2_2, I_3, J_4 => f_X1_playOn_B2 b x1_1 K24 (f_X1_playOn_L2 b x1_1 K24 n) x2_2 I_3 J_4
def f_X1_playOn (b : Nat) (x1 : Int32) (I : MI) (J : MJ) (Q : Int32 → MI → MJ → Prop) : Prop :=
  ∃ n : Nat, f_X1_playOn_L2 b x1 (fun (x2_10 : Int32) (I_11 : MI) (J_12 : MJ) => Q x2_10 I_11 J_12) n (0 : Int32) I J
set_option maxRecDepth 100000 in
set_option maxHeartbeats 4000000 in
theorem c_X1_playOn {l : Launch} {E : EV} {ps : List (Nat × Nat)} {b : Nat} (hB : b < 11) (hM : ∀ r, r < 16 → (b, r) ∈ ps) {x1 : Int32} {I : MI} {J : MJ} {Q : Int32 → MI → MJ → Prop} (hf : f_X1_playOn b x1 I J Q) : KI l yX1_playOn wsX1_playOn rmX1_playOn E ps [.ref (eA E b 0), .int x1] I J Q := by
  refine K_ofI (cc := cX1_playOn) (maxL := 3) (ty := .int) (by decide +kernel) rfl (Nat.le_of_ble_eq_true rfl) (fun p e s m args below meth c Qm hret S hK hX => ?_)
  have hA : ∀ q, s.heap.size ≤ q → AA E ps s.heap.size q := fun _ h => Or.inr h
  have k1 := S.2.2.2.2 (.fieldLink RX1 69 "RhymeRoofs$Game" "over" "Z") (by decide +kernel)
  have iX1 : ∀ w ∈ wsX10, w ∈ wsX1_playOn := fun _ h => List.mem_cons_of_mem _ (List.mem_append_left _ (List.mem_append_left _ (List.mem_append_right _ h)))
  intro H locs ls hP hD hS hl
  unfold f_X1_playOn at hf
  refine lv_iconst (v := 0) S.1 S.2.1 dX1_playOn_0 rfl ?_
  refine lv_istore_n (lv' := [(2, .int (0 : Int32)), (0, .ref (eA E b 0)), (1, .int x1)]) S.1 S.2.1 dX1_playOn_1 rfl hl (by decide) rfl (fun ls hl => ?_)
  obtain ⟨n_13, hf⟩ := hf
  have L2 : ∀ (x1_1 : Int32), ∀ (K24 : Int32 → MI → MJ → Prop), (∀ (x2_10 : Int32) (I_11 : MI) (J_12 : MJ), K24 x2_10 I_11 J_12 → Wj p l e (rmX1_playOn) s m args below meth c Qm E ps 3 I_11 J_12 24 [(2, .int x2_10)] []) → ∀ (n : Nat) (x2_2 : Int32) (I_3 : MI) (J_4 : MJ), f_X1_playOn_L2 b x1_1 K24 n x2_2 I_3 J_4 → Wj p l e (rmX1_playOn) s m args below meth c Qm E ps 3 I_3 J_4 2 [(0, .ref (eA E b 0)), (1, .int x1_1), (2, .int x2_2)] [] := by
    intro x1_1 K24 kx24 n
    induction n with
    | zero => intro x2_2 I_3 J_4 hf; exact hf.elim
    | succ n ih2 =>
      intro x2_2 I_3 J_4 hf
      have hf : f_X1_playOn_B2 b x1_1 K24 (f_X1_playOn_L2 b x1_1 K24 n) x2_2 I_3 J_4 := hf
      intro H locs ls hP hD hS hl
      unfold f_X1_playOn_B2 at hf
      refine lv_aload_n S.1 S.2.1 dX1_playOn_2 rfl (lv_at hl 0 rfl) ?_
      refine gfX1_11 S iX1 hK hP hB (hM 0 (by decide)) k1 dX1_playOn_3 ?_
      refine lv_if_ne (tgt := 24) S.1 S.2.1 dX1_playOn_6 (by decide) (fun h_5 => ?_) (fun h_5 => ?_)
      · have hf := hf.2 h_5
        exact kx24 _ _ _ hf _ _ _ hP hD hS (lv_sub hl [2] rfl)
      · have hf := hf.1 h_5
        refine lv_iload_n S.1 S.2.1 dX1_playOn_9 rfl (lv_at hl 2 rfl) ?_
        refine lv_iload_n S.1 S.2.1 dX1_playOn_10 rfl (lv_at hl 1 rfl) ?_
        refine lv_icmp_ge (tgt := 24) S.1 S.2.1 dX1_playOn_11 (by decide) (fun h_6 => ?_) (fun h_6 => ?_)
        · have hf := hf.1 h_6
          exact kx24 _ _ _ hf _ _ _ hP hD hS (lv_sub hl [2] rfl)
        · have hf := hf.2 h_6
          refine lv_aload_n S.1 S.2.1 dX1_playOn_14 rfl (lv_at hl 0 rfl) ?_
          refine R_cVv (As := []) (rest := []) S (c_X1_stepByRank (hB := hB) (hM := hM)  hf) gX1_playOn_X1_stepByRank rfl yk_X1_stepByRank ⟨⟨Nat.le_of_ble_eq_true rfl, Nat.le_of_ble_eq_true rfl⟩, rfl, rfl⟩ hK hP hD hS hX hA (hM 0 (by decide)) (cF_g E hB _ _ 0) rfl rfl hl.1 rfl (Nat.le_of_ble_eq_true rfl) ⟨Nat.zero_le _, Nat.zero_le _⟩ dX1_playOn_15 (fun I_7 J_8 H locs hf hP hD hS => ?_)
          refine nm_o hf (fun x2_9 ex2_9 hf => ?_)
          refine lv_iinc (v := x2_9) (lv' := [(2, .int x2_9), (0, .ref (eA E b 0)), (1, .int x1_1)]) S.1 S.2.1 dX1_playOn_18 hl (k := 2) rfl (by rw [ex2_9]; rfl) (by decide) rfl (fun ls hl => ?_)
          refine lv_goto (tgt := 2) S.1 S.2.1 dX1_playOn_21 (by decide) ?_
          exact ih2 _ _ _ hf _ _ _ hP hD hS (lv_sub hl [1, 2, 0] rfl)
  refine L2 _ _ (fun x2_10 I_11 J_12 hf H locs ls hP hD hS hl => ?_)  n_13 _ _ _ hf _ _ _ hP hD hS (lv_sub hl [1, 2, 0] rfl)
  refine lv_iload_n S.1 S.2.1 dX1_playOn_24 rfl (lv_at hl 0 rfl) ?_
  exact hret hf rfl hP hD hS dX1_playOn_25
