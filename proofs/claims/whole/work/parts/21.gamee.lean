abbrev rmX1_reset : Room := { frames := 3, cells := 0, slots := 0, locals := 62 }
theorem yk_X1_reset : yOk yX1_reset RX1 0 := by unfold yOk; decide +kernel
def f_X1_reset (b : Nat) (I : MI) (J : MJ) (Q : MI → MJ → Prop) : Prop :=
  f_X4_reset b I J (fun (I_1 : MI) (J_2 : MJ) => f_J7_fill_53178 b 7 240 (0 : Int32) I_1 J_2 (fun (I_3 : MI) (J_4 : MJ) => f_J7_fill_53178 b 8 6 (0 : Int32) I_3 J_4 (fun (I_5 : MI) (J_6 : MJ) => f_J7_fill_53178 b 9 6 (0 : Int32) I_5 J_6 (fun (I_7 : MI) (J_8 : MJ) => f_J7_fill_d0a16 b 10 6 (0 : Int64) I_7 J_8 (fun (I_9 : MI) (J_10 : MJ) => f_J7_fill_53178 b 11 6 (-1 : Int32) I_9 J_10 (fun (I_11 : MI) (J_12 : MJ) => f_J7_fill_d0a16 b 12 32 (0 : Int64) I_11 J_12 (fun (I_13 : MI) (J_14 : MJ) => f_J7_fill_53178 b 13 4 (0 : Int32) I_13 J_14 (fun (I_15 : MI) (J_16 : MJ) => f_J7_fill_53178 b 14 4 (0 : Int32) I_15 J_16 (fun (I_17 : MI) (J_18 : MJ) => ∀ I_19 : MI, I_19 = sI I_17 b 0 9 (0 : Int32) → ∀ I_20 : MI, I_20 = sI I_19 b 0 10 (0 : Int32) → ∀ I_21 : MI, I_21 = sI I_20 b 0 11 (0 : Int32) → Q I_21 J_18)))))))))
set_option maxRecDepth 100000 in
set_option maxHeartbeats 4000000 in
theorem c_X1_reset {l : Launch} {E : EV} {ps : List (Nat × Nat)} {b : Nat} (hB : b < 11) (hM : ∀ r, r < 16 → (b, r) ∈ ps) {I : MI} {J : MJ} {Q : MI → MJ → Prop} (hf : f_X1_reset b I J Q) : KV l yX1_reset wsX1_reset rmX1_reset E ps [.ref (eA E b 0)] I J Q := by
  refine K_ofV (cc := cX1_reset) (maxL := 1) (by decide +kernel) rfl (Nat.le_of_ble_eq_true rfl) (fun p e s m args below meth c Qm hret S hK hX => ?_)
  have hA : ∀ q, s.heap.size ≤ q → AA E ps s.heap.size q := fun _ h => Or.inr h
  have k1 := S.2.2.2.2 (.fieldLink RX1 12 "RhymeRoofs$Game" "rules" "LRhymeRoofs$Rules;") (by decide +kernel)
  have iX1 : ∀ w ∈ wsX10, w ∈ wsX1_reset := fun _ h => List.mem_cons_of_mem _ (List.mem_append_left _ (List.mem_append_left _ (List.mem_append_right _ h)))
  have k2 := S.2.2.2.2 (.fieldLink RX1 18 "RhymeRoofs$Game" "letters" "[I") (by decide +kernel)
  have k3 := S.2.2.2.2 (.fieldLink RX1 22 "RhymeRoofs$Game" "lettersOn" "[I") (by decide +kernel)
  have k4 := S.2.2.2.2 (.fieldLink RX1 25 "RhymeRoofs$Game" "wordsOn" "[I") (by decide +kernel)
  have k5 := S.2.2.2.2 (.fieldLink RX1 28 "RhymeRoofs$Game" "lastOn" "[J") (by decide +kernel)
  have k6 := S.2.2.2.2 (.fieldLink RX1 32 "RhymeRoofs$Game" "ownerOf" "[I") (by decide +kernel)
  have k7 := S.2.2.2.2 (.fieldLink RX1 35 "RhymeRoofs$Game" "hands" "[J") (by decide +kernel)
  have k8 := S.2.2.2.2 (.fieldLink RX1 38 "RhymeRoofs$Game" "handSize" "[I") (by decide +kernel)
  have k9 := S.2.2.2.2 (.fieldLink RX1 41 "RhymeRoofs$Game" "points" "[I") (by decide +kernel)
  have k10 := S.2.2.2.2 (.fieldLink RX1 62 "RhymeRoofs$Game" "turn" "I") (by decide +kernel)
  have k11 := S.2.2.2.2 (.fieldLink RX1 66 "RhymeRoofs$Game" "passes" "I") (by decide +kernel)
  have k12 := S.2.2.2.2 (.fieldLink RX1 69 "RhymeRoofs$Game" "over" "Z") (by decide +kernel)
  intro H locs ls hP hD hS hl
  unfold f_X1_reset at hf
  refine lv_aload_n S.1 S.2.1 dX1_reset_0 rfl (lv_at hl 0 rfl) ?_
  refine gfX1_0 S iX1 hK hP hB (hM 0 (by decide)) k1 dX1_reset_1 ?_
  refine R_cVv (As := []) (rest := []) S (c_X4_reset (hB := hB) (hM := hM)  hf) gX1_reset_X4_reset rfl yk_X4_reset ⟨⟨Nat.le_of_ble_eq_true rfl, Nat.le_of_ble_eq_true rfl⟩, rfl, rfl⟩ hK hP hD hS hX hA (hM 1 (by decide)) (cF_g E hB _ _ 1) rfl rfl hl.1 rfl (Nat.le_of_ble_eq_true rfl) ⟨Nat.zero_le _, Nat.zero_le _⟩ dX1_reset_4 (fun I_1 J_2 H locs hf hP hD hS => ?_)
  refine lv_aload_n S.1 S.2.1 dX1_reset_7 rfl (lv_at hl 0 rfl) ?_
  refine gfX1_1 S iX1 hK hP hB (hM 0 (by decide)) k2 dX1_reset_8 ?_
  refine lv_iconst (v := 0) S.1 S.2.1 dX1_reset_11 rfl ?_
  refine R_cSv (As := [.ref (eA E b 7), .int (0 : Int32)]) (rest := []) S (c_J7_fill_53178  (hm1 := (hM 7 (by decide))) (hc1 := (IAg7 E hB)) hf) gX1_reset_J7_fill_53178 rfl yk_J7_fill_53178 ⟨⟨Nat.le_of_ble_eq_true rfl, Nat.le_of_ble_eq_true rfl⟩, rfl, rfl⟩ hK hP hD hS hX hA rfl hl.1 rfl (Nat.le_of_ble_eq_true rfl) ⟨Nat.zero_le _, Nat.zero_le _⟩ dX1_reset_12 (fun I_3 J_4 H locs hf hP hD hS => ?_)
  refine lv_aload_n S.1 S.2.1 dX1_reset_15 rfl (lv_at hl 0 rfl) ?_
  refine gfX1_2 S iX1 hK hP hB (hM 0 (by decide)) k3 dX1_reset_16 ?_
  refine lv_iconst (v := 0) S.1 S.2.1 dX1_reset_19 rfl ?_
  refine R_cSv (As := [.ref (eA E b 8), .int (0 : Int32)]) (rest := []) S (c_J7_fill_53178  (hm1 := (hM 8 (by decide))) (hc1 := (IAg8 E hB)) hf) gX1_reset_J7_fill_53178 rfl yk_J7_fill_53178 ⟨⟨Nat.le_of_ble_eq_true rfl, Nat.le_of_ble_eq_true rfl⟩, rfl, rfl⟩ hK hP hD hS hX hA rfl hl.1 rfl (Nat.le_of_ble_eq_true rfl) ⟨Nat.zero_le _, Nat.zero_le _⟩ dX1_reset_20 (fun I_5 J_6 H locs hf hP hD hS => ?_)
  refine lv_aload_n S.1 S.2.1 dX1_reset_23 rfl (lv_at hl 0 rfl) ?_
  refine gfX1_3 S iX1 hK hP hB (hM 0 (by decide)) k4 dX1_reset_24 ?_
  refine lv_iconst (v := 0) S.1 S.2.1 dX1_reset_27 rfl ?_
  refine R_cSv (As := [.ref (eA E b 9), .int (0 : Int32)]) (rest := []) S (c_J7_fill_53178  (hm1 := (hM 9 (by decide))) (hc1 := (IAg9 E hB)) hf) gX1_reset_J7_fill_53178 rfl yk_J7_fill_53178 ⟨⟨Nat.le_of_ble_eq_true rfl, Nat.le_of_ble_eq_true rfl⟩, rfl, rfl⟩ hK hP hD hS hX hA rfl hl.1 rfl (Nat.le_of_ble_eq_true rfl) ⟨Nat.zero_le _, Nat.zero_le _⟩ dX1_reset_28 (fun I_7 J_8 H locs hf hP hD hS => ?_)
  refine lv_aload_n S.1 S.2.1 dX1_reset_31 rfl (lv_at hl 0 rfl) ?_
  refine gfX1_4 S iX1 hK hP hB (hM 0 (by decide)) k5 dX1_reset_32 ?_
  refine lv_lconst (v := 0) S.1 S.2.1 dX1_reset_35 rfl ?_
  refine R_cSv (As := [.ref (eA E b 10), .long (0 : Int64)]) (rest := []) S (c_J7_fill_d0a16  (hm1 := (hM 10 (by decide))) (hc1 := (LAg10 E hB)) hf) gX1_reset_J7_fill_d0a16 rfl yk_J7_fill_d0a16 ⟨⟨Nat.le_of_ble_eq_true rfl, Nat.le_of_ble_eq_true rfl⟩, rfl, rfl⟩ hK hP hD hS hX hA rfl hl.1 rfl (Nat.le_of_ble_eq_true rfl) ⟨Nat.zero_le _, Nat.zero_le _⟩ dX1_reset_36 (fun I_9 J_10 H locs hf hP hD hS => ?_)
  refine lv_aload_n S.1 S.2.1 dX1_reset_39 rfl (lv_at hl 0 rfl) ?_
  refine gfX1_5 S iX1 hK hP hB (hM 0 (by decide)) k6 dX1_reset_40 ?_
  refine lv_iconst (v := (-1)) S.1 S.2.1 dX1_reset_43 rfl ?_
  refine R_cSv (As := [.ref (eA E b 11), .int (-1 : Int32)]) (rest := []) S (c_J7_fill_53178  (hm1 := (hM 11 (by decide))) (hc1 := (IAg11 E hB)) hf) gX1_reset_J7_fill_53178 rfl yk_J7_fill_53178 ⟨⟨Nat.le_of_ble_eq_true rfl, Nat.le_of_ble_eq_true rfl⟩, rfl, rfl⟩ hK hP hD hS hX hA rfl hl.1 rfl (Nat.le_of_ble_eq_true rfl) ⟨Nat.zero_le _, Nat.zero_le _⟩ dX1_reset_44 (fun I_11 J_12 H locs hf hP hD hS => ?_)
  refine lv_aload_n S.1 S.2.1 dX1_reset_47 rfl (lv_at hl 0 rfl) ?_
  refine gfX1_6 S iX1 hK hP hB (hM 0 (by decide)) k7 dX1_reset_48 ?_
  refine lv_lconst (v := 0) S.1 S.2.1 dX1_reset_51 rfl ?_
  refine R_cSv (As := [.ref (eA E b 12), .long (0 : Int64)]) (rest := []) S (c_J7_fill_d0a16  (hm1 := (hM 12 (by decide))) (hc1 := (LAg12 E hB)) hf) gX1_reset_J7_fill_d0a16 rfl yk_J7_fill_d0a16 ⟨⟨Nat.le_of_ble_eq_true rfl, Nat.le_of_ble_eq_true rfl⟩, rfl, rfl⟩ hK hP hD hS hX hA rfl hl.1 rfl (Nat.le_of_ble_eq_true rfl) ⟨Nat.zero_le _, Nat.zero_le _⟩ dX1_reset_52 (fun I_13 J_14 H locs hf hP hD hS => ?_)
  refine lv_aload_n S.1 S.2.1 dX1_reset_55 rfl (lv_at hl 0 rfl) ?_
  refine gfX1_7 S iX1 hK hP hB (hM 0 (by decide)) k8 dX1_reset_56 ?_
  refine lv_iconst (v := 0) S.1 S.2.1 dX1_reset_59 rfl ?_
  refine R_cSv (As := [.ref (eA E b 13), .int (0 : Int32)]) (rest := []) S (c_J7_fill_53178  (hm1 := (hM 13 (by decide))) (hc1 := (IAg13 E hB)) hf) gX1_reset_J7_fill_53178 rfl yk_J7_fill_53178 ⟨⟨Nat.le_of_ble_eq_true rfl, Nat.le_of_ble_eq_true rfl⟩, rfl, rfl⟩ hK hP hD hS hX hA rfl hl.1 rfl (Nat.le_of_ble_eq_true rfl) ⟨Nat.zero_le _, Nat.zero_le _⟩ dX1_reset_60 (fun I_15 J_16 H locs hf hP hD hS => ?_)
  refine lv_aload_n S.1 S.2.1 dX1_reset_63 rfl (lv_at hl 0 rfl) ?_
  refine gfX1_8 S iX1 hK hP hB (hM 0 (by decide)) k9 dX1_reset_64 ?_
  refine lv_iconst (v := 0) S.1 S.2.1 dX1_reset_67 rfl ?_
  refine R_cSv (As := [.ref (eA E b 14), .int (0 : Int32)]) (rest := []) S (c_J7_fill_53178  (hm1 := (hM 14 (by decide))) (hc1 := (IAg14 E hB)) hf) gX1_reset_J7_fill_53178 rfl yk_J7_fill_53178 ⟨⟨Nat.le_of_ble_eq_true rfl, Nat.le_of_ble_eq_true rfl⟩, rfl, rfl⟩ hK hP hD hS hX hA rfl hl.1 rfl (Nat.le_of_ble_eq_true rfl) ⟨Nat.zero_le _, Nat.zero_le _⟩ dX1_reset_68 (fun I_17 J_18 H locs hf hP hD hS => ?_)
  refine lv_aload_n S.1 S.2.1 dX1_reset_71 rfl (lv_at hl 0 rfl) ?_
  refine lv_iconst (v := 0) S.1 S.2.1 dX1_reset_72 rfl ?_
  refine nm_o hf (fun I_19 eI_19 hf => ?_)
  refine pfX1_9 S iX1 hK hP hD hS hB (hM 0 (by decide)) k10 dX1_reset_73 eI_19 (fun H locs hP hD hS => ?_)
  refine lv_aload_n S.1 S.2.1 dX1_reset_76 rfl (lv_at hl 0 rfl) ?_
  refine lv_iconst (v := 0) S.1 S.2.1 dX1_reset_77 rfl ?_
  refine nm_o hf (fun I_20 eI_20 hf => ?_)
  refine pfX1_10 S iX1 hK hP hD hS hB (hM 0 (by decide)) k11 dX1_reset_78 eI_20 (fun H locs hP hD hS => ?_)
  refine lv_aload_n S.1 S.2.1 dX1_reset_81 rfl (lv_at hl 0 rfl) ?_
  refine lv_iconst (v := 0) S.1 S.2.1 dX1_reset_82 rfl ?_
  refine nm_o hf (fun I_21 eI_21 hf => ?_)
  refine pfX1_11 S iX1 hK hP hD hS hB (hM 0 (by decide)) k12 bo0 dX1_reset_83 eI_21 (fun H locs hP hD hS => ?_)
  exact hret hf hP hD hS dX1_reset_86
abbrev rmX1_rowNumber : Room := { frames := 1, cells := 0, slots := 0, locals := 21 }
theorem yk_X1_rowNumber : yOk yX1_rowNumber RX1 2 := by unfold yOk; decide +kernel
def f_X1_rowNumber (b : Nat) (x1 : Int32) (x2 : Int32) (I : MI) (J : MJ) (Q : Int32 → MI → MJ → Prop) : Prop :=
  ((x2 = (0 : Int32) → (vp_in x1 6 ∧ Q (I b 3 x1.toNatClampNeg) I J)) ∧ (¬ x2 = (0 : Int32) → ((x2 = (1 : Int32) → f_X1_freeTiles b x1 I J (fun (v_5 : Int32) (I_3 : MI) (J_4 : MJ) => Q v_5 I_3 J_4)) ∧ (¬ x2 = (1 : Int32) → ((x2 = (2 : Int32) → (vp_in x1 6 ∧ Q (I b 9 x1.toNatClampNeg) I J)) ∧ (¬ x2 = (2 : Int32) → (vp_in x1 6 ∧ Q (I b 11 x1.toNatClampNeg) I J)))))))
set_option maxRecDepth 100000 in
set_option maxHeartbeats 4000000 in
theorem c_X1_rowNumber {l : Launch} {E : EV} {ps : List (Nat × Nat)} {b : Nat} (hB : b < 11) (hM : ∀ r, r < 16 → (b, r) ∈ ps) {x1 : Int32} {x2 : Int32} {I : MI} {J : MJ} {Q : Int32 → MI → MJ → Prop} (hf : f_X1_rowNumber b x1 x2 I J Q) : KI l yX1_rowNumber wsX1_rowNumber rmX1_rowNumber E ps [.ref (eA E b 0), .int x1, .int x2] I J Q := by
  refine K_ofI (cc := cX1_rowNumber) (maxL := 3) (ty := .int) (by decide +kernel) rfl (Nat.le_of_ble_eq_true rfl) (fun p e s m args below meth c Qm hret S hK hX => ?_)
  have hA : ∀ q, s.heap.size ≤ q → AA E ps s.heap.size q := fun _ h => Or.inr h
  have k1 := S.2.2.2.2 (.fieldLink RX1 12 "RhymeRoofs$Game" "rules" "LRhymeRoofs$Rules;") (by decide +kernel)
  have iX1 : ∀ w ∈ wsX10, w ∈ wsX1_rowNumber := fun _ h => List.mem_cons_of_mem _ (List.mem_append_left _ (List.mem_append_right _ h))
  have k2 := S.2.2.2.2 (.fieldLink RX1 111 "RhymeRoofs$Rules" "tiles" "[I") (by decide +kernel)
  have iX4 : ∀ w ∈ wsX40, w ∈ wsX1_rowNumber := fun _ h => List.mem_cons_of_mem _ (List.mem_append_right _ h)
  have k3 := S.2.2.2.2 (.fieldLink RX1 25 "RhymeRoofs$Game" "wordsOn" "[I") (by decide +kernel)
  have k4 := S.2.2.2.2 (.fieldLink RX1 32 "RhymeRoofs$Game" "ownerOf" "[I") (by decide +kernel)
  intro H locs ls hP hD hS hl
  unfold f_X1_rowNumber at hf
  refine lv_iload_n S.1 S.2.1 dX1_rowNumber_0 rfl (lv_at hl 2 rfl) ?_
  refine Classical.byCases (p := x2 = (0 : Int32)) (fun h_1 => ?_) (fun h_1_0 => ?_)
  · have hf := hf.1 h_1
    refine R_swIn (tgt := 28) (off := 27) S.1 S.2.1 dX1_rowNumber_1 h_1 (by decide) (by decide) ?_
    refine lv_aload_n S.1 S.2.1 dX1_rowNumber_28 rfl (lv_at hl 0 rfl) ?_
    refine gfX1_0 S iX1 hK hP hB (hM 0 (by decide)) k1 dX1_rowNumber_29 ?_
    refine gfX4_0 S iX4 hK hP hB (hM 1 (by decide)) k2 dX1_rowNumber_32 ?_
    refine lv_iload_n S.1 S.2.1 dX1_rowNumber_35 rfl (lv_at hl 1 rfl) ?_
    obtain ⟨h_2, hf⟩ := hf
    refine R_iald S.1 S.2.1 hK hP (hM 3 (by decide)) (IAg3 E hB) h_2 dX1_rowNumber_36 ?_
    exact hret hf rfl hP hD hS dX1_rowNumber_37
  have hf := hf.2 h_1_0
  refine Classical.byCases (p := x2 = (1 : Int32)) (fun h_1 => ?_) (fun h_1_1 => ?_)
  · have hf := hf.1 h_1
    refine R_swIn (tgt := 38) (off := 37) S.1 S.2.1 dX1_rowNumber_1 h_1 (by decide) (by decide) ?_
    refine lv_aload_n S.1 S.2.1 dX1_rowNumber_38 rfl (lv_at hl 0 rfl) ?_
    refine lv_iload_n S.1 S.2.1 dX1_rowNumber_39 rfl (lv_at hl 1 rfl) ?_
    refine R_cVi (As := [.int x1]) (rest := []) S (c_X1_freeTiles (hB := hB) (hM := hM)  hf) gX1_rowNumber_X1_freeTiles rfl yk_X1_freeTiles ⟨⟨Nat.le_of_ble_eq_true rfl, Nat.le_of_ble_eq_true rfl⟩, rfl, rfl⟩ hK hP hD hS hX hA (hM 0 (by decide)) (cF_g E hB _ _ 0) rfl rfl hl.1 rfl (Nat.le_of_ble_eq_true rfl) ⟨Nat.zero_le _, Nat.zero_le _⟩ dX1_rowNumber_40 (fun v_5 I_3 J_4 H locs hf hP hD hS => ?_)
    exact hret hf rfl hP hD hS dX1_rowNumber_43
  have hf := hf.2 h_1_1
  refine Classical.byCases (p := x2 = (2 : Int32)) (fun h_1 => ?_) (fun h_1_2 => ?_)
  · have hf := hf.1 h_1
    refine R_swIn (tgt := 44) (off := 43) S.1 S.2.1 dX1_rowNumber_1 h_1 (by decide) (by decide) ?_
    refine lv_aload_n S.1 S.2.1 dX1_rowNumber_44 rfl (lv_at hl 0 rfl) ?_
    refine gfX1_3 S iX1 hK hP hB (hM 0 (by decide)) k3 dX1_rowNumber_45 ?_
    refine lv_iload_n S.1 S.2.1 dX1_rowNumber_48 rfl (lv_at hl 1 rfl) ?_
    obtain ⟨h_6, hf⟩ := hf
    refine R_iald S.1 S.2.1 hK hP (hM 9 (by decide)) (IAg9 E hB) h_6 dX1_rowNumber_49 ?_
    exact hret hf rfl hP hD hS dX1_rowNumber_50
  have hf := hf.2 h_1_2
  refine lv_tableOut (tgt := 51) S.1 S.2.1 dX1_rowNumber_1 (by have q0 := ne_I (z := 0) h_1_0 (by decide); have q1 := ne_I (z := 1) h_1_1 (by decide); have q2 := ne_I (z := 2) h_1_2 (by decide); omega) (by decide) ?_
  refine lv_aload_n S.1 S.2.1 dX1_rowNumber_51 rfl (lv_at hl 0 rfl) ?_
  refine gfX1_5 S iX1 hK hP hB (hM 0 (by decide)) k4 dX1_rowNumber_52 ?_
  refine lv_iload_n S.1 S.2.1 dX1_rowNumber_55 rfl (lv_at hl 1 rfl) ?_
  obtain ⟨h_7, hf⟩ := hf
  refine R_iald S.1 S.2.1 hK hP (hM 11 (by decide)) (IAg11 E hB) h_7 dX1_rowNumber_56 ?_
  exact hret hf rfl hP hD hS dX1_rowNumber_57
abbrev rmX1_playerNumber : Room := { frames := 2, cells := 0, slots := 0, locals := 47 }
theorem yk_X1_playerNumber : yOk yX1_playerNumber RX1 2 := by unfold yOk; decide +kernel
def f_X1_playerNumber (b : Nat) (x1 : Int32) (x2 : Int32) (I : MI) (J : MJ) (Q : Int32 → MI → MJ → Prop) : Prop :=
  ((x2 = (0 : Int32) → (vp_in x1 4 ∧ Q (I b 13 x1.toNatClampNeg) I J)) ∧ (¬ x2 = (0 : Int32) → ((x2 = (1 : Int32) → f_X1_lettersOfHand b x1 I J (fun (v_5 : Int32) (I_3 : MI) (J_4 : MJ) => Q v_5 I_3 J_4)) ∧ (¬ x2 = (1 : Int32) → ((x2 = (2 : Int32) → (vp_in x1 4 ∧ Q (I b 14 x1.toNatClampNeg) I J)) ∧ (¬ x2 = (2 : Int32) → f_X1_rowsOwnedBy b x1 I J (fun (v_9 : Int32) (I_7 : MI) (J_8 : MJ) => Q v_9 I_7 J_8)))))))
set_option maxRecDepth 100000 in
set_option maxHeartbeats 4000000 in
theorem c_X1_playerNumber {l : Launch} {E : EV} {ps : List (Nat × Nat)} {b : Nat} (hB : b < 11) (hM : ∀ r, r < 16 → (b, r) ∈ ps) {x1 : Int32} {x2 : Int32} {I : MI} {J : MJ} {Q : Int32 → MI → MJ → Prop} (hf : f_X1_playerNumber b x1 x2 I J Q) : KI l yX1_playerNumber wsX1_playerNumber rmX1_playerNumber E ps [.ref (eA E b 0), .int x1, .int x2] I J Q := by
  refine K_ofI (cc := cX1_playerNumber) (maxL := 3) (ty := .int) (by decide +kernel) rfl (Nat.le_of_ble_eq_true rfl) (fun p e s m args below meth c Qm hret S hK hX => ?_)
  have hA : ∀ q, s.heap.size ≤ q → AA E ps s.heap.size q := fun _ h => Or.inr h
  have k1 := S.2.2.2.2 (.fieldLink RX1 38 "RhymeRoofs$Game" "handSize" "[I") (by decide +kernel)
  have iX1 : ∀ w ∈ wsX10, w ∈ wsX1_playerNumber := fun _ h => List.mem_cons_of_mem _ (List.mem_append_left _ (List.mem_append_right _ h))
  have k2 := S.2.2.2.2 (.fieldLink RX1 41 "RhymeRoofs$Game" "points" "[I") (by decide +kernel)
  intro H locs ls hP hD hS hl
  unfold f_X1_playerNumber at hf
  refine lv_iload_n S.1 S.2.1 dX1_playerNumber_0 rfl (lv_at hl 2 rfl) ?_
  refine Classical.byCases (p := x2 = (0 : Int32)) (fun h_1 => ?_) (fun h_1_0 => ?_)
  · have hf := hf.1 h_1
    refine R_swIn (tgt := 28) (off := 27) S.1 S.2.1 dX1_playerNumber_1 h_1 (by decide) (by decide) ?_
    refine lv_aload_n S.1 S.2.1 dX1_playerNumber_28 rfl (lv_at hl 0 rfl) ?_
    refine gfX1_7 S iX1 hK hP hB (hM 0 (by decide)) k1 dX1_playerNumber_29 ?_
    refine lv_iload_n S.1 S.2.1 dX1_playerNumber_32 rfl (lv_at hl 1 rfl) ?_
    obtain ⟨h_2, hf⟩ := hf
    refine R_iald S.1 S.2.1 hK hP (hM 13 (by decide)) (IAg13 E hB) h_2 dX1_playerNumber_33 ?_
    exact hret hf rfl hP hD hS dX1_playerNumber_34
  have hf := hf.2 h_1_0
  refine Classical.byCases (p := x2 = (1 : Int32)) (fun h_1 => ?_) (fun h_1_1 => ?_)
  · have hf := hf.1 h_1
    refine R_swIn (tgt := 35) (off := 34) S.1 S.2.1 dX1_playerNumber_1 h_1 (by decide) (by decide) ?_
    refine lv_aload_n S.1 S.2.1 dX1_playerNumber_35 rfl (lv_at hl 0 rfl) ?_
    refine lv_iload_n S.1 S.2.1 dX1_playerNumber_36 rfl (lv_at hl 1 rfl) ?_
    refine R_cVi (As := [.int x1]) (rest := []) S (c_X1_lettersOfHand (hB := hB) (hM := hM)  hf) gX1_playerNumber_X1_lettersOfHand rfl yk_X1_lettersOfHand ⟨⟨Nat.le_of_ble_eq_true rfl, Nat.le_of_ble_eq_true rfl⟩, rfl, rfl⟩ hK hP hD hS hX hA (hM 0 (by decide)) (cF_g E hB _ _ 0) rfl rfl hl.1 rfl (Nat.le_of_ble_eq_true rfl) ⟨Nat.zero_le _, Nat.zero_le _⟩ dX1_playerNumber_37 (fun v_5 I_3 J_4 H locs hf hP hD hS => ?_)
    exact hret hf rfl hP hD hS dX1_playerNumber_40
  have hf := hf.2 h_1_1
  refine Classical.byCases (p := x2 = (2 : Int32)) (fun h_1 => ?_) (fun h_1_2 => ?_)
  · have hf := hf.1 h_1
    refine R_swIn (tgt := 41) (off := 40) S.1 S.2.1 dX1_playerNumber_1 h_1 (by decide) (by decide) ?_
    refine lv_aload_n S.1 S.2.1 dX1_playerNumber_41 rfl (lv_at hl 0 rfl) ?_
    refine gfX1_8 S iX1 hK hP hB (hM 0 (by decide)) k2 dX1_playerNumber_42 ?_
    refine lv_iload_n S.1 S.2.1 dX1_playerNumber_45 rfl (lv_at hl 1 rfl) ?_
    obtain ⟨h_6, hf⟩ := hf
    refine R_iald S.1 S.2.1 hK hP (hM 14 (by decide)) (IAg14 E hB) h_6 dX1_playerNumber_46 ?_
    exact hret hf rfl hP hD hS dX1_playerNumber_47
  have hf := hf.2 h_1_2
  refine lv_tableOut (tgt := 48) S.1 S.2.1 dX1_playerNumber_1 (by have q0 := ne_I (z := 0) h_1_0 (by decide); have q1 := ne_I (z := 1) h_1_1 (by decide); have q2 := ne_I (z := 2) h_1_2 (by decide); omega) (by decide) ?_
  refine lv_aload_n S.1 S.2.1 dX1_playerNumber_48 rfl (lv_at hl 0 rfl) ?_
  refine lv_iload_n S.1 S.2.1 dX1_playerNumber_49 rfl (lv_at hl 1 rfl) ?_
  refine R_cVi (As := [.int x1]) (rest := []) S (c_X1_rowsOwnedBy (hB := hB) (hM := hM)  hf) gX1_playerNumber_X1_rowsOwnedBy rfl yk_X1_rowsOwnedBy ⟨⟨Nat.le_of_ble_eq_true rfl, Nat.le_of_ble_eq_true rfl⟩, rfl, rfl⟩ hK hP hD hS hX hA (hM 0 (by decide)) (cF_g E hB _ _ 0) rfl rfl hl.1 rfl (Nat.le_of_ble_eq_true rfl) ⟨Nat.zero_le _, Nat.zero_le _⟩ dX1_playerNumber_50 (fun v_9 I_7 J_8 H locs hf hP hD hS => ?_)
  exact hret hf rfl hP hD hS dX1_playerNumber_53
abbrev rmX1_obstacleNow : Room := { frames := 2, cells := 0, slots := 0, locals := 52 }
theorem yk_X1_obstacleNow : yOk yX1_obstacleNow RX1 2 := by unfold yOk; decide +kernel
def f_X1_obstacleNow (b : Nat) (x1 : Int32) (x2 : Int32) (I : MI) (J : MJ) (Q : Int32 → MI → MJ → Prop) : Prop :=
  (((I b 0 11) = (0 : Int32) → f_X1_wordOf b (I b 0 9) x1 I J (fun (v_4 : Int64) (I_2 : MI) (J_3 : MJ) => f_X1_obstacle b v_4 x2 I_2 J_3 (fun (v_7 : Int32) (I_5 : MI) (J_6 : MJ) => Q v_7 I_5 J_6))) ∧ (¬ (I b 0 11) = (0 : Int32) → Q (1 : Int32) I J))
set_option maxRecDepth 100000 in
set_option maxHeartbeats 4000000 in
theorem c_X1_obstacleNow {l : Launch} {E : EV} {ps : List (Nat × Nat)} {b : Nat} (hB : b < 11) (hM : ∀ r, r < 16 → (b, r) ∈ ps) {x1 : Int32} {x2 : Int32} {I : MI} {J : MJ} {Q : Int32 → MI → MJ → Prop} (hf : f_X1_obstacleNow b x1 x2 I J Q) : KI l yX1_obstacleNow wsX1_obstacleNow rmX1_obstacleNow E ps [.ref (eA E b 0), .int x1, .int x2] I J Q := by
  refine K_ofI (cc := cX1_obstacleNow) (maxL := 3) (ty := .int) (by decide +kernel) rfl (Nat.le_of_ble_eq_true rfl) (fun p e s m args below meth c Qm hret S hK hX => ?_)
  have hA : ∀ q, s.heap.size ≤ q → AA E ps s.heap.size q := fun _ h => Or.inr h
  have k1 := S.2.2.2.2 (.fieldLink RX1 69 "RhymeRoofs$Game" "over" "Z") (by decide +kernel)
  have iX1 : ∀ w ∈ wsX10, w ∈ wsX1_obstacleNow := fun _ h => List.mem_cons_of_mem _ (List.mem_append_left _ (List.mem_append_right _ h))
  have k2 := S.2.2.2.2 (.fieldLink RX1 62 "RhymeRoofs$Game" "turn" "I") (by decide +kernel)
  intro H locs ls hP hD hS hl
  unfold f_X1_obstacleNow at hf
  refine lv_aload_n S.1 S.2.1 dX1_obstacleNow_0 rfl (lv_at hl 0 rfl) ?_
  refine gfX1_11 S iX1 hK hP hB (hM 0 (by decide)) k1 dX1_obstacleNow_1 ?_
  refine lv_if_eq (tgt := 11) S.1 S.2.1 dX1_obstacleNow_4 (by decide) (fun h_1 => ?_) (fun h_1 => ?_)
  · have hf := hf.1 h_1
    refine lv_aload_n S.1 S.2.1 dX1_obstacleNow_11 rfl (lv_at hl 0 rfl) ?_
    refine lv_aload_n S.1 S.2.1 dX1_obstacleNow_12 rfl (lv_at hl 0 rfl) ?_
    refine lv_aload_n S.1 S.2.1 dX1_obstacleNow_13 rfl (lv_at hl 0 rfl) ?_
    refine gfX1_9 S iX1 hK hP hB (hM 0 (by decide)) k2 dX1_obstacleNow_14 ?_
    refine lv_iload_n S.1 S.2.1 dX1_obstacleNow_17 rfl (lv_at hl 1 rfl) ?_
    refine R_cVl (As := [.int (I b 0 9), .int x1]) (rest := [.ref (eA E b 0)]) S (c_X1_wordOf (hB := hB) (hM := hM)  hf) gX1_obstacleNow_X1_wordOf rfl yk_X1_wordOf ⟨⟨Nat.le_of_ble_eq_true rfl, Nat.le_of_ble_eq_true rfl⟩, rfl, rfl⟩ hK hP hD hS hX hA (hM 0 (by decide)) (cF_g E hB _ _ 0) rfl rfl hl.1 rfl (Nat.le_of_ble_eq_true rfl) ⟨Nat.zero_le _, Nat.zero_le _⟩ dX1_obstacleNow_18 (fun v_4 I_2 J_3 H locs hf hP hD hS => ?_)
    refine lv_iload_n S.1 S.2.1 dX1_obstacleNow_21 rfl (lv_at hl 2 rfl) ?_
    refine R_cVi (As := [.long v_4, .int x2]) (rest := []) S (c_X1_obstacle (hB := hB) (hM := hM)  hf) gX1_obstacleNow_X1_obstacle rfl yk_X1_obstacle ⟨⟨Nat.le_of_ble_eq_true rfl, Nat.le_of_ble_eq_true rfl⟩, rfl, rfl⟩ hK hP hD hS hX hA (hM 0 (by decide)) (cF_g E hB _ _ 0) rfl rfl hl.1 rfl (Nat.le_of_ble_eq_true rfl) ⟨Nat.zero_le _, Nat.zero_le _⟩ dX1_obstacleNow_22 (fun v_7 I_5 J_6 H locs hf hP hD hS => ?_)
    exact hret hf rfl hP hD hS dX1_obstacleNow_25
  · have hf := hf.2 h_1
    refine lv_iconst (v := 1) S.1 S.2.1 dX1_obstacleNow_7 rfl ?_
    refine lv_goto (tgt := 25) S.1 S.2.1 dX1_obstacleNow_8 (by decide) ?_
    exact hret hf rfl hP hD hS dX1_obstacleNow_25
