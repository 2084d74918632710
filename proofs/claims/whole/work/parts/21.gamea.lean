abbrev rmX1_copyFrom : Room := { frames := 3, cells := 0, slots := 0, locals := 106 }
theorem yk_X1_copyFrom : yOk yX1_copyFrom RX1 1 := by unfold yOk; decide +kernel
def f_X1_copyFrom (b : Nat) (g : Nat) (I : MI) (J : MJ) (Q : MI → MJ → Prop) : Prop :=
  f_X4_copyFrom b g I J (fun (I_1 : MI) (J_2 : MJ) => ((¬ (0 : Int32) < 0 ∧ ¬ (0 : Int32) < 0 ∧ ¬ (240 : Int32) < 0 ∧ (0 : Int32).toNatClampNeg + (240 : Int32).toNatClampNeg ≤ 240 ∧ (0 : Int32).toNatClampNeg + (240 : Int32).toNatClampNeg ≤ 240) ∧ ∀ I_4 : MI, I_4 = rI I_1 b 7 (va_cpy (I_1 g 7) (I_1 b 7) (0 : Int32).toNatClampNeg (0 : Int32).toNatClampNeg (240 : Int32).toNatClampNeg) → ((¬ (0 : Int32) < 0 ∧ ¬ (0 : Int32) < 0 ∧ ¬ (6 : Int32) < 0 ∧ (0 : Int32).toNatClampNeg + (6 : Int32).toNatClampNeg ≤ 6 ∧ (0 : Int32).toNatClampNeg + (6 : Int32).toNatClampNeg ≤ 6) ∧ ∀ I_6 : MI, I_6 = rI I_4 b 8 (va_cpy (I_4 g 8) (I_4 b 8) (0 : Int32).toNatClampNeg (0 : Int32).toNatClampNeg (6 : Int32).toNatClampNeg) → ((¬ (0 : Int32) < 0 ∧ ¬ (0 : Int32) < 0 ∧ ¬ (6 : Int32) < 0 ∧ (0 : Int32).toNatClampNeg + (6 : Int32).toNatClampNeg ≤ 6 ∧ (0 : Int32).toNatClampNeg + (6 : Int32).toNatClampNeg ≤ 6) ∧ ∀ I_8 : MI, I_8 = rI I_6 b 9 (va_cpy (I_6 g 9) (I_6 b 9) (0 : Int32).toNatClampNeg (0 : Int32).toNatClampNeg (6 : Int32).toNatClampNeg) → ((¬ (0 : Int32) < 0 ∧ ¬ (0 : Int32) < 0 ∧ ¬ (6 : Int32) < 0 ∧ (0 : Int32).toNatClampNeg + (6 : Int32).toNatClampNeg ≤ 6 ∧ (0 : Int32).toNatClampNeg + (6 : Int32).toNatClampNeg ≤ 6) ∧ ∀ J_10 : MJ, J_10 = rJ J_2 b 10 (va_cpy (J_2 g 10) (J_2 b 10) (0 : Int32).toNatClampNeg (0 : Int32).toNatClampNeg (6 : Int32).toNatClampNeg) → ((¬ (0 : Int32) < 0 ∧ ¬ (0 : Int32) < 0 ∧ ¬ (6 : Int32) < 0 ∧ (0 : Int32).toNatClampNeg + (6 : Int32).toNatClampNeg ≤ 6 ∧ (0 : Int32).toNatClampNeg + (6 : Int32).toNatClampNeg ≤ 6) ∧ ∀ I_12 : MI, I_12 = rI I_8 b 11 (va_cpy (I_8 g 11) (I_8 b 11) (0 : Int32).toNatClampNeg (0 : Int32).toNatClampNeg (6 : Int32).toNatClampNeg) → ((¬ (0 : Int32) < 0 ∧ ¬ (0 : Int32) < 0 ∧ ¬ (32 : Int32) < 0 ∧ (0 : Int32).toNatClampNeg + (32 : Int32).toNatClampNeg ≤ 32 ∧ (0 : Int32).toNatClampNeg + (32 : Int32).toNatClampNeg ≤ 32) ∧ ∀ J_14 : MJ, J_14 = rJ J_10 b 12 (va_cpy (J_10 g 12) (J_10 b 12) (0 : Int32).toNatClampNeg (0 : Int32).toNatClampNeg (32 : Int32).toNatClampNeg) → ((¬ (0 : Int32) < 0 ∧ ¬ (0 : Int32) < 0 ∧ ¬ (4 : Int32) < 0 ∧ (0 : Int32).toNatClampNeg + (4 : Int32).toNatClampNeg ≤ 4 ∧ (0 : Int32).toNatClampNeg + (4 : Int32).toNatClampNeg ≤ 4) ∧ ∀ I_16 : MI, I_16 = rI I_12 b 13 (va_cpy (I_12 g 13) (I_12 b 13) (0 : Int32).toNatClampNeg (0 : Int32).toNatClampNeg (4 : Int32).toNatClampNeg) → ((¬ (0 : Int32) < 0 ∧ ¬ (0 : Int32) < 0 ∧ ¬ (4 : Int32) < 0 ∧ (0 : Int32).toNatClampNeg + (4 : Int32).toNatClampNeg ≤ 4 ∧ (0 : Int32).toNatClampNeg + (4 : Int32).toNatClampNeg ≤ 4) ∧ ∀ I_18 : MI, I_18 = rI I_16 b 14 (va_cpy (I_16 g 14) (I_16 b 14) (0 : Int32).toNatClampNeg (0 : Int32).toNatClampNeg (4 : Int32).toNatClampNeg) → ∀ I_19 : MI, I_19 = sI I_18 b 0 9 (I_18 g 0 9) → ∀ I_20 : MI, I_20 = sI I_19 b 0 10 (I_19 g 0 10) → (bo (I_20 g 0 11) ∧ ∀ I_21 : MI, I_21 = sI I_20 b 0 11 (I_20 g 0 11) → Q I_21 J_14))))))))))
set_option maxRecDepth 100000 in
set_option maxHeartbeats 4000000 in
theorem c_X1_copyFrom {l : Launch} {E : EV} {ps : List (Nat × Nat)} {b : Nat} (hB : b < 11) (hM : ∀ r, r < 16 → (b, r) ∈ ps) {g : Nat} (hBg : g < 11) (hMg : ∀ r, r < 16 → (g, r) ∈ ps) {I : MI} {J : MJ} {Q : MI → MJ → Prop} (hf : f_X1_copyFrom b g I J Q) : KV l yX1_copyFrom wsX1_copyFrom rmX1_copyFrom E ps [.ref (eA E b 0), .ref (eA E g 0)] I J Q := by
  refine K_ofV (cc := cX1_copyFrom) (maxL := 2) (by decide +kernel) rfl (Nat.le_of_ble_eq_true rfl) (fun p e s m args below meth c Qm hret S hK hX => ?_)
  have hA : ∀ q, s.heap.size ≤ q → AA E ps s.heap.size q := fun _ h => Or.inr h
  have k1 := S.2.2.2.2 (.fieldLink RX1 12 "RhymeRoofs$Game" "rules" "LRhymeRoofs$Rules;") (by decide +kernel)
  have iX1 : ∀ w ∈ wsX10, w ∈ wsX1_copyFrom := fun _ h => List.mem_cons_of_mem _ (List.mem_append_left _ (List.mem_append_left _ (List.mem_append_right _ h)))
  have k2 := S.2.2.2.2 (.fieldLink RX1 18 "RhymeRoofs$Game" "letters" "[I") (by decide +kernel)
  have k3 := S.2.2.2.2 (.methodLink RX1 77 arraycopyName) (by decide +kernel)
  have k4 := S.2.2.2.2 (.native arraycopyName) (by decide +kernel)
  have k5 := S.2.2.2.2 (.static arraycopyName) (by decide +kernel)
  have k6 := S.2.2.2.2 (.initialized "java/lang/System") (by decide +kernel)
  have k7 := S.2.2.2.2 (.fieldLink RX1 22 "RhymeRoofs$Game" "lettersOn" "[I") (by decide +kernel)
  have k8 := S.2.2.2.2 (.fieldLink RX1 25 "RhymeRoofs$Game" "wordsOn" "[I") (by decide +kernel)
  have k9 := S.2.2.2.2 (.fieldLink RX1 28 "RhymeRoofs$Game" "lastOn" "[J") (by decide +kernel)
  have k10 := S.2.2.2.2 (.fieldLink RX1 32 "RhymeRoofs$Game" "ownerOf" "[I") (by decide +kernel)
  have k11 := S.2.2.2.2 (.fieldLink RX1 35 "RhymeRoofs$Game" "hands" "[J") (by decide +kernel)
  have k12 := S.2.2.2.2 (.fieldLink RX1 38 "RhymeRoofs$Game" "handSize" "[I") (by decide +kernel)
  have k13 := S.2.2.2.2 (.fieldLink RX1 41 "RhymeRoofs$Game" "points" "[I") (by decide +kernel)
  have k14 := S.2.2.2.2 (.fieldLink RX1 62 "RhymeRoofs$Game" "turn" "I") (by decide +kernel)
  have k15 := S.2.2.2.2 (.fieldLink RX1 66 "RhymeRoofs$Game" "passes" "I") (by decide +kernel)
  have k16 := S.2.2.2.2 (.fieldLink RX1 69 "RhymeRoofs$Game" "over" "Z") (by decide +kernel)
  intro H locs ls hP hD hS hl
  unfold f_X1_copyFrom at hf
  refine lv_aload_n S.1 S.2.1 dX1_copyFrom_0 rfl (lv_at hl 0 rfl) ?_
  refine gfX1_0 S iX1 hK hP hB (hM 0 (by decide)) k1 dX1_copyFrom_1 ?_
  refine lv_aload_n S.1 S.2.1 dX1_copyFrom_4 rfl (lv_at hl 1 rfl) ?_
  refine gfX1_0 S iX1 hK hP hBg (hMg 0 (by decide)) k1 dX1_copyFrom_5 ?_
  refine R_cVv (As := [.ref (eA E g 1)]) (rest := []) S (c_X4_copyFrom (hB := hB) (hM := hM) (hBg := hBg) (hMg := hMg) hf) gX1_copyFrom_X4_copyFrom rfl yk_X4_copyFrom ⟨⟨Nat.le_of_ble_eq_true rfl, Nat.le_of_ble_eq_true rfl⟩, rfl, rfl⟩ hK hP hD hS hX hA (hM 1 (by decide)) (cF_g E hB _ _ 1) rfl rfl hl.1 rfl (Nat.le_of_ble_eq_true rfl) ⟨Nat.zero_le _, Nat.zero_le _⟩ dX1_copyFrom_8 (fun I_1 J_2 H locs hf hP hD hS => ?_)
  refine lv_aload_n S.1 S.2.1 dX1_copyFrom_11 rfl (lv_at hl 1 rfl) ?_
  refine gfX1_1 S iX1 hK hP hBg (hMg 0 (by decide)) k2 dX1_copyFrom_12 ?_
  refine lv_iconst (v := 0) S.1 S.2.1 dX1_copyFrom_15 rfl ?_
  refine lv_aload_n S.1 S.2.1 dX1_copyFrom_16 rfl (lv_at hl 0 rfl) ?_
  refine gfX1_1 S iX1 hK hP hB (hM 0 (by decide)) k2 dX1_copyFrom_17 ?_
  refine lv_iconst (v := 0) S.1 S.2.1 dX1_copyFrom_20 rfl ?_
  refine lv_aload_n S.1 S.2.1 dX1_copyFrom_21 rfl (lv_at hl 0 rfl) ?_
  refine gfX1_1 S iX1 hK hP hB (hM 0 (by decide)) k2 dX1_copyFrom_22 ?_
  refine R_alenI S.1 S.2.1 hK hP (hM 7 (by decide)) (IAg7 E hB) dX1_copyFrom_25 ?_
  obtain ⟨h_3, hf⟩ := hf
  refine nm_o hf (fun I_4 eI_4 hf => ?_)
  refine R_cpyI S (hl.1) k3 k4 k5 k6 hK hP hD hS (hMg 7 (by decide)) (IAg7 E hBg) (hM 7 (by decide)) (IAg7 E hB) h_3 (Nat.le_of_ble_eq_true rfl) (Nat.le_of_ble_eq_true rfl) dX1_copyFrom_26 eI_4 (fun H locs hP hD hS => ?_)
  refine lv_aload_n S.1 S.2.1 dX1_copyFrom_29 rfl (lv_at hl 1 rfl) ?_
  refine gfX1_2 S iX1 hK hP hBg (hMg 0 (by decide)) k7 dX1_copyFrom_30 ?_
  refine lv_iconst (v := 0) S.1 S.2.1 dX1_copyFrom_33 rfl ?_
  refine lv_aload_n S.1 S.2.1 dX1_copyFrom_34 rfl (lv_at hl 0 rfl) ?_
  refine gfX1_2 S iX1 hK hP hB (hM 0 (by decide)) k7 dX1_copyFrom_35 ?_
  refine lv_iconst (v := 0) S.1 S.2.1 dX1_copyFrom_38 rfl ?_
  refine lv_aload_n S.1 S.2.1 dX1_copyFrom_39 rfl (lv_at hl 0 rfl) ?_
  refine gfX1_2 S iX1 hK hP hB (hM 0 (by decide)) k7 dX1_copyFrom_40 ?_
  refine R_alenI S.1 S.2.1 hK hP (hM 8 (by decide)) (IAg8 E hB) dX1_copyFrom_43 ?_
  obtain ⟨h_5, hf⟩ := hf
  refine nm_o hf (fun I_6 eI_6 hf => ?_)
  refine R_cpyI S (hl.1) k3 k4 k5 k6 hK hP hD hS (hMg 8 (by decide)) (IAg8 E hBg) (hM 8 (by decide)) (IAg8 E hB) h_5 (Nat.le_of_ble_eq_true rfl) (Nat.le_of_ble_eq_true rfl) dX1_copyFrom_44 eI_6 (fun H locs hP hD hS => ?_)
  refine lv_aload_n S.1 S.2.1 dX1_copyFrom_47 rfl (lv_at hl 1 rfl) ?_
  refine gfX1_3 S iX1 hK hP hBg (hMg 0 (by decide)) k8 dX1_copyFrom_48 ?_
  refine lv_iconst (v := 0) S.1 S.2.1 dX1_copyFrom_51 rfl ?_
  refine lv_aload_n S.1 S.2.1 dX1_copyFrom_52 rfl (lv_at hl 0 rfl) ?_
  refine gfX1_3 S iX1 hK hP hB (hM 0 (by decide)) k8 dX1_copyFrom_53 ?_
  refine lv_iconst (v := 0) S.1 S.2.1 dX1_copyFrom_56 rfl ?_
  refine lv_aload_n S.1 S.2.1 dX1_copyFrom_57 rfl (lv_at hl 0 rfl) ?_
  refine gfX1_3 S iX1 hK hP hB (hM 0 (by decide)) k8 dX1_copyFrom_58 ?_
  refine R_alenI S.1 S.2.1 hK hP (hM 9 (by decide)) (IAg9 E hB) dX1_copyFrom_61 ?_
  obtain ⟨h_7, hf⟩ := hf
  refine nm_o hf (fun I_8 eI_8 hf => ?_)
  refine R_cpyI S (hl.1) k3 k4 k5 k6 hK hP hD hS (hMg 9 (by decide)) (IAg9 E hBg) (hM 9 (by decide)) (IAg9 E hB) h_7 (Nat.le_of_ble_eq_true rfl) (Nat.le_of_ble_eq_true rfl) dX1_copyFrom_62 eI_8 (fun H locs hP hD hS => ?_)
  refine lv_aload_n S.1 S.2.1 dX1_copyFrom_65 rfl (lv_at hl 1 rfl) ?_
  refine gfX1_4 S iX1 hK hP hBg (hMg 0 (by decide)) k9 dX1_copyFrom_66 ?_
  refine lv_iconst (v := 0) S.1 S.2.1 dX1_copyFrom_69 rfl ?_
  refine lv_aload_n S.1 S.2.1 dX1_copyFrom_70 rfl (lv_at hl 0 rfl) ?_
  refine gfX1_4 S iX1 hK hP hB (hM 0 (by decide)) k9 dX1_copyFrom_71 ?_
  refine lv_iconst (v := 0) S.1 S.2.1 dX1_copyFrom_74 rfl ?_
  refine lv_aload_n S.1 S.2.1 dX1_copyFrom_75 rfl (lv_at hl 0 rfl) ?_
  refine gfX1_4 S iX1 hK hP hB (hM 0 (by decide)) k9 dX1_copyFrom_76 ?_
  refine R_alenL S.1 S.2.1 hK hP (hM 10 (by decide)) (LAg10 E hB) dX1_copyFrom_79 ?_
  obtain ⟨h_9, hf⟩ := hf
  refine nm_o hf (fun J_10 eJ_10 hf => ?_)
  refine R_cpyL S (hl.1) k3 k4 k5 k6 hK hP hD hS (hMg 10 (by decide)) (LAg10 E hBg) (hM 10 (by decide)) (LAg10 E hB) h_9 (Nat.le_of_ble_eq_true rfl) (Nat.le_of_ble_eq_true rfl) dX1_copyFrom_80 eJ_10 (fun H locs hP hD hS => ?_)
  refine lv_aload_n S.1 S.2.1 dX1_copyFrom_83 rfl (lv_at hl 1 rfl) ?_
  refine gfX1_5 S iX1 hK hP hBg (hMg 0 (by decide)) k10 dX1_copyFrom_84 ?_
  refine lv_iconst (v := 0) S.1 S.2.1 dX1_copyFrom_87 rfl ?_
  refine lv_aload_n S.1 S.2.1 dX1_copyFrom_88 rfl (lv_at hl 0 rfl) ?_
  refine gfX1_5 S iX1 hK hP hB (hM 0 (by decide)) k10 dX1_copyFrom_89 ?_
  refine lv_iconst (v := 0) S.1 S.2.1 dX1_copyFrom_92 rfl ?_
  refine lv_aload_n S.1 S.2.1 dX1_copyFrom_93 rfl (lv_at hl 0 rfl) ?_
  refine gfX1_5 S iX1 hK hP hB (hM 0 (by decide)) k10 dX1_copyFrom_94 ?_
  refine R_alenI S.1 S.2.1 hK hP (hM 11 (by decide)) (IAg11 E hB) dX1_copyFrom_97 ?_
  obtain ⟨h_11, hf⟩ := hf
  refine nm_o hf (fun I_12 eI_12 hf => ?_)
  refine R_cpyI S (hl.1) k3 k4 k5 k6 hK hP hD hS (hMg 11 (by decide)) (IAg11 E hBg) (hM 11 (by decide)) (IAg11 E hB) h_11 (Nat.le_of_ble_eq_true rfl) (Nat.le_of_ble_eq_true rfl) dX1_copyFrom_98 eI_12 (fun H locs hP hD hS => ?_)
  refine lv_aload_n S.1 S.2.1 dX1_copyFrom_101 rfl (lv_at hl 1 rfl) ?_
  refine gfX1_6 S iX1 hK hP hBg (hMg 0 (by decide)) k11 dX1_copyFrom_102 ?_
  refine lv_iconst (v := 0) S.1 S.2.1 dX1_copyFrom_105 rfl ?_
  refine lv_aload_n S.1 S.2.1 dX1_copyFrom_106 rfl (lv_at hl 0 rfl) ?_
  refine gfX1_6 S iX1 hK hP hB (hM 0 (by decide)) k11 dX1_copyFrom_107 ?_
  refine lv_iconst (v := 0) S.1 S.2.1 dX1_copyFrom_110 rfl ?_
  refine lv_aload_n S.1 S.2.1 dX1_copyFrom_111 rfl (lv_at hl 0 rfl) ?_
  refine gfX1_6 S iX1 hK hP hB (hM 0 (by decide)) k11 dX1_copyFrom_112 ?_
  refine R_alenL S.1 S.2.1 hK hP (hM 12 (by decide)) (LAg12 E hB) dX1_copyFrom_115 ?_
  obtain ⟨h_13, hf⟩ := hf
  refine nm_o hf (fun J_14 eJ_14 hf => ?_)
  refine R_cpyL S (hl.1) k3 k4 k5 k6 hK hP hD hS (hMg 12 (by decide)) (LAg12 E hBg) (hM 12 (by decide)) (LAg12 E hB) h_13 (Nat.le_of_ble_eq_true rfl) (Nat.le_of_ble_eq_true rfl) dX1_copyFrom_116 eJ_14 (fun H locs hP hD hS => ?_)
  refine lv_aload_n S.1 S.2.1 dX1_copyFrom_119 rfl (lv_at hl 1 rfl) ?_
  refine gfX1_7 S iX1 hK hP hBg (hMg 0 (by decide)) k12 dX1_copyFrom_120 ?_
  refine lv_iconst (v := 0) S.1 S.2.1 dX1_copyFrom_123 rfl ?_
  refine lv_aload_n S.1 S.2.1 dX1_copyFrom_124 rfl (lv_at hl 0 rfl) ?_
  refine gfX1_7 S iX1 hK hP hB (hM 0 (by decide)) k12 dX1_copyFrom_125 ?_
  refine lv_iconst (v := 0) S.1 S.2.1 dX1_copyFrom_128 rfl ?_
  refine lv_aload_n S.1 S.2.1 dX1_copyFrom_129 rfl (lv_at hl 0 rfl) ?_
  refine gfX1_7 S iX1 hK hP hB (hM 0 (by decide)) k12 dX1_copyFrom_130 ?_
  refine R_alenI S.1 S.2.1 hK hP (hM 13 (by decide)) (IAg13 E hB) dX1_copyFrom_133 ?_
  obtain ⟨h_15, hf⟩ := hf
  refine nm_o hf (fun I_16 eI_16 hf => ?_)
  refine R_cpyI S (hl.1) k3 k4 k5 k6 hK hP hD hS (hMg 13 (by decide)) (IAg13 E hBg) (hM 13 (by decide)) (IAg13 E hB) h_15 (Nat.le_of_ble_eq_true rfl) (Nat.le_of_ble_eq_true rfl) dX1_copyFrom_134 eI_16 (fun H locs hP hD hS => ?_)
  refine lv_aload_n S.1 S.2.1 dX1_copyFrom_137 rfl (lv_at hl 1 rfl) ?_
  refine gfX1_8 S iX1 hK hP hBg (hMg 0 (by decide)) k13 dX1_copyFrom_138 ?_
  refine lv_iconst (v := 0) S.1 S.2.1 dX1_copyFrom_141 rfl ?_
  refine lv_aload_n S.1 S.2.1 dX1_copyFrom_142 rfl (lv_at hl 0 rfl) ?_
  refine gfX1_8 S iX1 hK hP hB (hM 0 (by decide)) k13 dX1_copyFrom_143 ?_
  refine lv_iconst (v := 0) S.1 S.2.1 dX1_copyFrom_146 rfl ?_
  refine lv_aload_n S.1 S.2.1 dX1_copyFrom_147 rfl (lv_at hl 0 rfl) ?_
  refine gfX1_8 S iX1 hK hP hB (hM 0 (by decide)) k13 dX1_copyFrom_148 ?_
  refine R_alenI S.1 S.2.1 hK hP (hM 14 (by decide)) (IAg14 E hB) dX1_copyFrom_151 ?_
  obtain ⟨h_17, hf⟩ := hf
  refine nm_o hf (fun I_18 eI_18 hf => ?_)
  refine R_cpyI S (hl.1) k3 k4 k5 k6 hK hP hD hS (hMg 14 (by decide)) (IAg14 E hBg) (hM 14 (by decide)) (IAg14 E hB) h_17 (Nat.le_of_ble_eq_true rfl) (Nat.le_of_ble_eq_true rfl) dX1_copyFrom_152 eI_18 (fun H locs hP hD hS => ?_)
  refine lv_aload_n S.1 S.2.1 dX1_copyFrom_155 rfl (lv_at hl 0 rfl) ?_
  refine lv_aload_n S.1 S.2.1 dX1_copyFrom_156 rfl (lv_at hl 1 rfl) ?_
  refine gfX1_9 S iX1 hK hP hBg (hMg 0 (by decide)) k14 dX1_copyFrom_157 ?_
  refine nm_o hf (fun I_19 eI_19 hf => ?_)
  refine pfX1_9 S iX1 hK hP hD hS hB (hM 0 (by decide)) k14 dX1_copyFrom_160 eI_19 (fun H locs hP hD hS => ?_)
  refine lv_aload_n S.1 S.2.1 dX1_copyFrom_163 rfl (lv_at hl 0 rfl) ?_
  refine lv_aload_n S.1 S.2.1 dX1_copyFrom_164 rfl (lv_at hl 1 rfl) ?_
  refine gfX1_10 S iX1 hK hP hBg (hMg 0 (by decide)) k15 dX1_copyFrom_165 ?_
  refine nm_o hf (fun I_20 eI_20 hf => ?_)
  refine pfX1_10 S iX1 hK hP hD hS hB (hM 0 (by decide)) k15 dX1_copyFrom_168 eI_20 (fun H locs hP hD hS => ?_)
  refine lv_aload_n S.1 S.2.1 dX1_copyFrom_171 rfl (lv_at hl 0 rfl) ?_
  refine lv_aload_n S.1 S.2.1 dX1_copyFrom_172 rfl (lv_at hl 1 rfl) ?_
  refine gfX1_11 S iX1 hK hP hBg (hMg 0 (by decide)) k16 dX1_copyFrom_173 ?_
  obtain ⟨h_22, hf⟩ := hf
  refine nm_o hf (fun I_21 eI_21 hf => ?_)
  refine pfX1_11 S iX1 hK hP hD hS hB (hM 0 (by decide)) k16 h_22 dX1_copyFrom_176 eI_21 (fun H locs hP hD hS => ?_)
  exact hret hf hP hD hS dX1_copyFrom_179
abbrev rmX1_letterOnTile : Room := { frames := 0, cells := 0, slots := 0, locals := 0 }
theorem yk_X1_letterOnTile : yOk yX1_letterOnTile RX1 2 := by unfold yOk; decide +kernel
def f_X1_letterOnTile (b : Nat) (x1 : Int32) (x2 : Int32) (I : MI) (J : MJ) (Q : Int32 → MI → MJ → Prop) : Prop :=
  (vp_in x1 6 ∧ (((I b 8 x1.toNatClampNeg) ≤ x2 → Q (-1 : Int32) I J) ∧ (¬ (I b 8 x1.toNatClampNeg) ≤ x2 → (vp_in ((x1 * (40 : Int32)) + x2) 240 ∧ Q (I b 7 ((x1 * (40 : Int32)) + x2).toNatClampNeg) I J))))
set_option maxRecDepth 100000 in
set_option maxHeartbeats 4000000 in
theorem c_X1_letterOnTile {l : Launch} {E : EV} {ps : List (Nat × Nat)} {b : Nat} (hB : b < 11) (hM : ∀ r, r < 16 → (b, r) ∈ ps) {x1 : Int32} {x2 : Int32} {I : MI} {J : MJ} {Q : Int32 → MI → MJ → Prop} (hf : f_X1_letterOnTile b x1 x2 I J Q) : KI l yX1_letterOnTile wsX1_letterOnTile rmX1_letterOnTile E ps [.ref (eA E b 0), .int x1, .int x2] I J Q := by
  refine K_ofI (cc := cX1_letterOnTile) (maxL := 3) (ty := .int) (by decide +kernel) rfl (Nat.le_of_ble_eq_true rfl) (fun p e s m args below meth c Qm hret S hK hX => ?_)
  have hA : ∀ q, s.heap.size ≤ q → AA E ps s.heap.size q := fun _ h => Or.inr h
  have k1 := S.2.2.2.2 (.fieldLink RX1 22 "RhymeRoofs$Game" "lettersOn" "[I") (by decide +kernel)
  have iX1 : ∀ w ∈ wsX10, w ∈ wsX1_letterOnTile := fun _ h => List.mem_cons_of_mem _ (List.mem_append_right _ h)
  have k2 := S.2.2.2.2 (.fieldLink RX1 18 "RhymeRoofs$Game" "letters" "[I") (by decide +kernel)
  intro H locs ls hP hD hS hl
  unfold f_X1_letterOnTile at hf
  refine lv_iload_n S.1 S.2.1 dX1_letterOnTile_0 rfl (lv_at hl 2 rfl) ?_
  refine lv_aload_n S.1 S.2.1 dX1_letterOnTile_1 rfl (lv_at hl 0 rfl) ?_
  refine gfX1_2 S iX1 hK hP hB (hM 0 (by decide)) k1 dX1_letterOnTile_2 ?_
  refine lv_iload_n S.1 S.2.1 dX1_letterOnTile_5 rfl (lv_at hl 1 rfl) ?_
  obtain ⟨h_1, hf⟩ := hf
  refine R_iald S.1 S.2.1 hK hP (hM 8 (by decide)) (IAg8 E hB) h_1 dX1_letterOnTile_6 ?_
  refine lv_icmp_ge (tgt := 24) S.1 S.2.1 dX1_letterOnTile_7 (by decide) (fun h_2 => ?_) (fun h_2 => ?_)
  · have hf := hf.1 h_2
    refine lv_iconst (v := (-1)) S.1 S.2.1 dX1_letterOnTile_24 rfl ?_
    exact hret hf rfl hP hD hS dX1_letterOnTile_25
  · have hf := hf.2 h_2
    refine lv_aload_n S.1 S.2.1 dX1_letterOnTile_10 rfl (lv_at hl 0 rfl) ?_
    refine gfX1_1 S iX1 hK hP hB (hM 0 (by decide)) k2 dX1_letterOnTile_11 ?_
    refine lv_iload_n S.1 S.2.1 dX1_letterOnTile_14 rfl (lv_at hl 1 rfl) ?_
    refine lv_bipush (v := 40) S.1 S.2.1 dX1_letterOnTile_15 rfl ?_
    refine lv_imul S.1 S.2.1 dX1_letterOnTile_17 ?_
    refine lv_iload_n S.1 S.2.1 dX1_letterOnTile_18 rfl (lv_at hl 2 rfl) ?_
    refine lv_iadd S.1 S.2.1 dX1_letterOnTile_19 ?_
    obtain ⟨h_3, hf⟩ := hf
    refine R_iald S.1 S.2.1 hK hP (hM 7 (by decide)) (IAg7 E hB) h_3 dX1_letterOnTile_20 ?_
    refine lv_goto (tgt := 25) S.1 S.2.1 dX1_letterOnTile_21 (by decide) ?_
    exact hret hf rfl hP hD hS dX1_letterOnTile_25
abbrev rmX1_freeTiles : Room := { frames := 0, cells := 0, slots := 0, locals := 0 }
theorem yk_X1_freeTiles : yOk yX1_freeTiles RX1 1 := by unfold yOk; decide +kernel
def f_X1_freeTiles (b : Nat) (x1 : Int32) (I : MI) (J : MJ) (Q : Int32 → MI → MJ → Prop) : Prop :=
  (vp_in x1 6 ∧ (vp_in x1 6 ∧ Q ((I b 3 x1.toNatClampNeg) - (I b 8 x1.toNatClampNeg)) I J))
set_option maxRecDepth 100000 in
set_option maxHeartbeats 4000000 in
theorem c_X1_freeTiles {l : Launch} {E : EV} {ps : List (Nat × Nat)} {b : Nat} (hB : b < 11) (hM : ∀ r, r < 16 → (b, r) ∈ ps) {x1 : Int32} {I : MI} {J : MJ} {Q : Int32 → MI → MJ → Prop} (hf : f_X1_freeTiles b x1 I J Q) : KI l yX1_freeTiles wsX1_freeTiles rmX1_freeTiles E ps [.ref (eA E b 0), .int x1] I J Q := by
  refine K_ofI (cc := cX1_freeTiles) (maxL := 2) (ty := .int) (by decide +kernel) rfl (Nat.le_of_ble_eq_true rfl) (fun p e s m args below meth c Qm hret S hK hX => ?_)
  have hA : ∀ q, s.heap.size ≤ q → AA E ps s.heap.size q := fun _ h => Or.inr h
  have k1 := S.2.2.2.2 (.fieldLink RX1 12 "RhymeRoofs$Game" "rules" "LRhymeRoofs$Rules;") (by decide +kernel)
  have iX1 : ∀ w ∈ wsX10, w ∈ wsX1_freeTiles := fun _ h => List.mem_cons_of_mem _ (List.mem_append_left _ (List.mem_append_right _ h))
  have k2 := S.2.2.2.2 (.fieldLink RX1 111 "RhymeRoofs$Rules" "tiles" "[I") (by decide +kernel)
  have iX4 : ∀ w ∈ wsX40, w ∈ wsX1_freeTiles := fun _ h => List.mem_cons_of_mem _ (List.mem_append_right _ h)
  have k3 := S.2.2.2.2 (.fieldLink RX1 22 "RhymeRoofs$Game" "lettersOn" "[I") (by decide +kernel)
  intro H locs ls hP hD hS hl
  unfold f_X1_freeTiles at hf
  refine lv_aload_n S.1 S.2.1 dX1_freeTiles_0 rfl (lv_at hl 0 rfl) ?_
  refine gfX1_0 S iX1 hK hP hB (hM 0 (by decide)) k1 dX1_freeTiles_1 ?_
  refine gfX4_0 S iX4 hK hP hB (hM 1 (by decide)) k2 dX1_freeTiles_4 ?_
  refine lv_iload_n S.1 S.2.1 dX1_freeTiles_7 rfl (lv_at hl 1 rfl) ?_
  obtain ⟨h_1, hf⟩ := hf
  refine R_iald S.1 S.2.1 hK hP (hM 3 (by decide)) (IAg3 E hB) h_1 dX1_freeTiles_8 ?_
  refine lv_aload_n S.1 S.2.1 dX1_freeTiles_9 rfl (lv_at hl 0 rfl) ?_
  refine gfX1_2 S iX1 hK hP hB (hM 0 (by decide)) k3 dX1_freeTiles_10 ?_
  refine lv_iload_n S.1 S.2.1 dX1_freeTiles_13 rfl (lv_at hl 1 rfl) ?_
  obtain ⟨h_2, hf⟩ := hf
  refine R_iald S.1 S.2.1 hK hP (hM 8 (by decide)) (IAg8 E hB) h_2 dX1_freeTiles_14 ?_
  refine lv_isub S.1 S.2.1 dX1_freeTiles_15 ?_
  exact hret hf rfl hP hD hS dX1_freeTiles_16
abbrev rmX1_wordOf : Room := { frames := 0, cells := 0, slots := 0, locals := 0 }
theorem yk_X1_wordOf : yOk yX1_wordOf RX1 2 := by unfold yOk; decide +kernel
def f_X1_wordOf (b : Nat) (x1 : Int32) (x2 : Int32) (I : MI) (J : MJ) (Q : Int64 → MI → MJ → Prop) : Prop :=
  (vp_in ((x1 * (8 : Int32)) + x2) 32 ∧ Q (J b 12 ((x1 * (8 : Int32)) + x2).toNatClampNeg) I J)
set_option maxRecDepth 100000 in
set_option maxHeartbeats 4000000 in
theorem c_X1_wordOf {l : Launch} {E : EV} {ps : List (Nat × Nat)} {b : Nat} (hB : b < 11) (hM : ∀ r, r < 16 → (b, r) ∈ ps) {x1 : Int32} {x2 : Int32} {I : MI} {J : MJ} {Q : Int64 → MI → MJ → Prop} (hf : f_X1_wordOf b x1 x2 I J Q) : KL l yX1_wordOf wsX1_wordOf rmX1_wordOf E ps [.ref (eA E b 0), .int x1, .int x2] I J Q := by
  refine K_ofL (cc := cX1_wordOf) (maxL := 3) (by decide +kernel) rfl (Nat.le_of_ble_eq_true rfl) (fun p e s m args below meth c Qm hret S hK hX => ?_)
  have hA : ∀ q, s.heap.size ≤ q → AA E ps s.heap.size q := fun _ h => Or.inr h
  have k1 := S.2.2.2.2 (.fieldLink RX1 35 "RhymeRoofs$Game" "hands" "[J") (by decide +kernel)
  have iX1 : ∀ w ∈ wsX10, w ∈ wsX1_wordOf := fun _ h => List.mem_cons_of_mem _ (List.mem_append_right _ h)
  intro H locs ls hP hD hS hl
  unfold f_X1_wordOf at hf
  refine lv_aload_n S.1 S.2.1 dX1_wordOf_0 rfl (lv_at hl 0 rfl) ?_
  refine gfX1_6 S iX1 hK hP hB (hM 0 (by decide)) k1 dX1_wordOf_1 ?_
  refine lv_iload_n S.1 S.2.1 dX1_wordOf_4 rfl (lv_at hl 1 rfl) ?_
  refine lv_bipush (v := 8) S.1 S.2.1 dX1_wordOf_5 rfl ?_
  refine lv_imul S.1 S.2.1 dX1_wordOf_7 ?_
  refine lv_iload_n S.1 S.2.1 dX1_wordOf_8 rfl (lv_at hl 2 rfl) ?_
  refine lv_iadd S.1 S.2.1 dX1_wordOf_9 ?_
  obtain ⟨h_1, hf⟩ := hf
  refine R_lald S.1 S.2.1 hK hP (hM 12 (by decide)) (LAg12 E hB) h_1 dX1_wordOf_10 ?_
  exact hret hf hP hD hS dX1_wordOf_11
abbrev rmX1_wordsOfHands : Room := { frames := 0, cells := 0, slots := 0, locals := 0 }
theorem yk_X1_wordsOfHands : yOk yX1_wordsOfHands RX1 0 := by unfold yOk; decide +kernel
def f_X1_wordsOfHands_B4 (b : Nat) (K30 : Int32 → MI → MJ → Prop) (rec4 : Int32 → Int32 → MI → MJ → Prop) (x1_1 : Int32) (x2_2 : Int32) (I_3 : MI) (J_4 : MJ) : Prop :=
  (((I_3 b 1 4) ≤ x2_2 → K30 x1_1 I_3 J_4) ∧ (¬ (I_3 b 1 4) ≤ x2_2 → (vp_in x2_2 4 ∧ ∀ x1_7 : Int32, x1_7 = (x1_1 + (I_3 b 13 x2_2.toNatClampNeg)) → ∀ x2_8 : Int32, x2_8 = x2_2 + (1 : Int32) → rec4 x1_7 x2_8 I_3 J_4)))
def f_X1_wordsOfHands_L4 (b : Nat) (K30 : Int32 → MI → MJ → Prop) : Nat → Int32 → Int32 → MI → MJ → Prop
  | 0, _, _, _, _ => False
  | n + 1, x1_1, x2_2, I_3, J_4 => f_X1_wordsOfHands_B4 b K30 (f_X1_wordsOfHands_L4 b K30 n) x1_1 x2_2 I_3 J_4
def f_X1_wordsOfHands (b : Nat) (I : MI) (J : MJ) (Q : Int32 → MI → MJ → Prop) : Prop :=
  ∃ n : Nat, f_X1_wordsOfHands_L4 b (fun (x1_9 : Int32) (I_10 : MI) (J_11 : MJ) => Q x1_9 I_10 J_11) n (0 : Int32) (0 : Int32) I J
set_option maxRecDepth 100000 in
set_option maxHeartbeats 4000000 in
theorem c_X1_wordsOfHands {l : Launch} {E : EV} {ps : List (Nat × Nat)} {b : Nat} (hB : b < 11) (hM : ∀ r, r < 16 → (b, r) ∈ ps) {I : MI} {J : MJ} {Q : Int32 → MI → MJ → Prop} (hf : f_X1_wordsOfHands b I J Q) : KI l yX1_wordsOfHands wsX1_wordsOfHands rmX1_wordsOfHands E ps [.ref (eA E b 0)] I J Q := by
  refine K_ofI (cc := cX1_wordsOfHands) (maxL := 3) (ty := .int) (by decide +kernel) rfl (Nat.le_of_ble_eq_true rfl) (fun p e s m args below meth c Qm hret S hK hX => ?_)
  have hA : ∀ q, s.heap.size ≤ q → AA E ps s.heap.size q := fun _ h => Or.inr h
  have k1 := S.2.2.2.2 (.fieldLink RX1 12 "RhymeRoofs$Game" "rules" "LRhymeRoofs$Rules;") (by decide +kernel)
  have iX1 : ∀ w ∈ wsX10, w ∈ wsX1_wordsOfHands := fun _ h => List.mem_cons_of_mem _ (List.mem_append_left _ (List.mem_append_right _ h))
  have k2 := S.2.2.2.2 (.fieldLink RX1 86 "RhymeRoofs$Rules" "players" "I") (by decide +kernel)
  have iX4 : ∀ w ∈ wsX40, w ∈ wsX1_wordsOfHands := fun _ h => List.mem_cons_of_mem _ (List.mem_append_right _ h)
  have k3 := S.2.2.2.2 (.fieldLink RX1 38 "RhymeRoofs$Game" "handSize" "[I") (by decide +kernel)
  intro H locs ls hP hD hS hl
  unfold f_X1_wordsOfHands at hf
  refine lv_iconst (v := 0) S.1 S.2.1 dX1_wordsOfHands_0 rfl ?_
  refine lv_istore_n (lv' := [(1, .int (0 : Int32)), (0, .ref (eA E b 0))]) S.1 S.2.1 dX1_wordsOfHands_1 rfl hl (by decide) rfl (fun ls hl => ?_)
  refine lv_iconst (v := 0) S.1 S.2.1 dX1_wordsOfHands_2 rfl ?_
  refine lv_istore_n (lv' := [(2, .int (0 : Int32)), (1, .int (0 : Int32)), (0, .ref (eA E b 0))]) S.1 S.2.1 dX1_wordsOfHands_3 rfl hl (by decide) rfl (fun ls hl => ?_)
  obtain ⟨n_12, hf⟩ := hf
  have L4 : ∀ (K30 : Int32 → MI → MJ → Prop), (∀ (x1_9 : Int32) (I_10 : MI) (J_11 : MJ), K30 x1_9 I_10 J_11 → Wj p l e (rmX1_wordsOfHands) s m args below meth c Qm E ps 3 I_10 J_11 30 [(1, .int x1_9)] []) → ∀ (n : Nat) (x1_1 : Int32) (x2_2 : Int32) (I_3 : MI) (J_4 : MJ), f_X1_wordsOfHands_L4 b K30 n x1_1 x2_2 I_3 J_4 → Wj p l e (rmX1_wordsOfHands) s m args below meth c Qm E ps 3 I_3 J_4 4 [(0, .ref (eA E b 0)), (1, .int x1_1), (2, .int x2_2)] [] := by
    intro K30 kx30 n
    induction n with
    | zero => intro x1_1 x2_2 I_3 J_4 hf; exact hf.elim
    | succ n ih4 =>
      intro x1_1 x2_2 I_3 J_4 hf
      have hf : f_X1_wordsOfHands_B4 b K30 (f_X1_wordsOfHands_L4 b K30 n) x1_1 x2_2 I_3 J_4 := hf
      intro H locs ls hP hD hS hl
      unfold f_X1_wordsOfHands_B4 at hf
      refine lv_iload_n S.1 S.2.1 dX1_wordsOfHands_4 rfl (lv_at hl 2 rfl) ?_
      refine lv_aload_n S.1 S.2.1 dX1_wordsOfHands_5 rfl (lv_at hl 0 rfl) ?_
      refine gfX1_0 S iX1 hK hP hB (hM 0 (by decide)) k1 dX1_wordsOfHands_6 ?_
      refine gfX4_4 S iX4 hK hP hB (hM 1 (by decide)) k2 dX1_wordsOfHands_9 ?_
      refine lv_icmp_ge (tgt := 30) S.1 S.2.1 dX1_wordsOfHands_12 (by decide) (fun h_5 => ?_) (fun h_5 => ?_)
      · have hf := hf.1 h_5
        exact kx30 _ _ _ hf _ _ _ hP hD hS (lv_sub hl [1] rfl)
      · have hf := hf.2 h_5
        refine lv_iload_n S.1 S.2.1 dX1_wordsOfHands_15 rfl (lv_at hl 1 rfl) ?_
        refine lv_aload_n S.1 S.2.1 dX1_wordsOfHands_16 rfl (lv_at hl 0 rfl) ?_
        refine gfX1_7 S iX1 hK hP hB (hM 0 (by decide)) k3 dX1_wordsOfHands_17 ?_
        refine lv_iload_n S.1 S.2.1 dX1_wordsOfHands_20 rfl (lv_at hl 2 rfl) ?_
        obtain ⟨h_6, hf⟩ := hf
        refine R_iald S.1 S.2.1 hK hP (hM 13 (by decide)) (IAg13 E hB) h_6 dX1_wordsOfHands_21 ?_
        refine lv_iadd S.1 S.2.1 dX1_wordsOfHands_22 ?_
        refine lv_topi (fun x1_7 ex1_7 => ?_)
        have hf := hf x1_7 ex1_7
        refine lv_istore_n (lv' := [(1, .int x1_7), (0, .ref (eA E b 0)), (2, .int x2_2)]) S.1 S.2.1 dX1_wordsOfHands_23 rfl hl (by decide) rfl (fun ls hl => ?_)
        refine nm_o hf (fun x2_8 ex2_8 hf => ?_)
        refine lv_iinc (v := x2_8) (lv' := [(2, .int x2_8), (1, .int x1_7), (0, .ref (eA E b 0))]) S.1 S.2.1 dX1_wordsOfHands_24 hl (k := 2) rfl (by rw [ex2_8]; rfl) (by decide) rfl (fun ls hl => ?_)
        refine lv_goto (tgt := 4) S.1 S.2.1 dX1_wordsOfHands_27 (by decide) ?_
        exact ih4 _ _ _ _ hf _ _ _ hP hD hS (lv_sub hl [2, 1, 0] rfl)
  refine L4 _ (fun x1_9 I_10 J_11 hf H locs ls hP hD hS hl => ?_)  n_12 _ _ _ _ hf _ _ _ hP hD hS (lv_sub hl [2, 1, 0] rfl)
  refine lv_iload_n S.1 S.2.1 dX1_wordsOfHands_30 rfl (lv_at hl 0 rfl) ?_
  exact hret hf rfl hP hD hS dX1_wordsOfHands_31
abbrev rmX1_wordsOnRows : Room := { frames := 0, cells := 0, slots := 0, locals := 0 }
theorem yk_X1_wordsOnRows : yOk yX1_wordsOnRows RX1 0 := by unfold yOk; decide +kernel
def f_X1_wordsOnRows_B4 (b : Nat) (K30 : Int32 → MI → MJ → Prop) (rec4 : Int32 → Int32 → MI → MJ → Prop) (x1_1 : Int32) (x2_2 : Int32) (I_3 : MI) (J_4 : MJ) : Prop :=
  (((I_3 b 1 3) ≤ x2_2 → K30 x1_1 I_3 J_4) ∧ (¬ (I_3 b 1 3) ≤ x2_2 → (vp_in x2_2 6 ∧ ∀ x1_7 : Int32, x1_7 = (x1_1 + (I_3 b 9 x2_2.toNatClampNeg)) → ∀ x2_8 : Int32, x2_8 = x2_2 + (1 : Int32) → rec4 x1_7 x2_8 I_3 J_4)))
def f_X1_wordsOnRows_L4 (b : Nat) (K30 : Int32 → MI → MJ → Prop) : Nat → Int32 → Int32 → MI → MJ → Prop
  | 0, _, _, _, _ => False
  | n + 1, x1_1, x2_2, I_3, J_4 => f_X1_wordsOnRows_B4 b K30 (f_X1_wordsOnRows_L4 b K30 n) x1_1 x2_2 I_3 J_4
def f_X1_wordsOnRows (b : Nat) (I : MI) (J : MJ) (Q : Int32 → MI → MJ → Prop) : Prop :=
  ∃ n : Nat, f_X1_wordsOnRows_L4 b (fun (x1_9 : Int32) (I_10 : MI) (J_11 : MJ) => Q x1_9 I_10 J_11) n (0 : Int32) (0 : Int32) I J
set_option maxRecDepth 100000 in
set_option maxHeartbeats 4000000 in
theorem c_X1_wordsOnRows {l : Launch} {E : EV} {ps : List (Nat × Nat)} {b : Nat} (hB : b < 11) (hM : ∀ r, r < 16 → (b, r) ∈ ps) {I : MI} {J : MJ} {Q : Int32 → MI → MJ → Prop} (hf : f_X1_wordsOnRows b I J Q) : KI l yX1_wordsOnRows wsX1_wordsOnRows rmX1_wordsOnRows E ps [.ref (eA E b 0)] I J Q := by
  refine K_ofI (cc := cX1_wordsOnRows) (maxL := 3) (ty := .int) (by decide +kernel) rfl (Nat.le_of_ble_eq_true rfl) (fun p e s m args below meth c Qm hret S hK hX => ?_)
  have hA : ∀ q, s.heap.size ≤ q → AA E ps s.heap.size q := fun _ h => Or.inr h
  have k1 := S.2.2.2.2 (.fieldLink RX1 12 "RhymeRoofs$Game" "rules" "LRhymeRoofs$Rules;") (by decide +kernel)
  have iX1 : ∀ w ∈ wsX10, w ∈ wsX1_wordsOnRows := fun _ h => List.mem_cons_of_mem _ (List.mem_append_left _ (List.mem_append_right _ h))
  have k2 := S.2.2.2.2 (.fieldLink RX1 83 "RhymeRoofs$Rules" "rows" "I") (by decide +kernel)
  have iX4 : ∀ w ∈ wsX40, w ∈ wsX1_wordsOnRows := fun _ h => List.mem_cons_of_mem _ (List.mem_append_right _ h)
  have k3 := S.2.2.2.2 (.fieldLink RX1 25 "RhymeRoofs$Game" "wordsOn" "[I") (by decide +kernel)
  intro H locs ls hP hD hS hl
  unfold f_X1_wordsOnRows at hf
  refine lv_iconst (v := 0) S.1 S.2.1 dX1_wordsOnRows_0 rfl ?_
  refine lv_istore_n (lv' := [(1, .int (0 : Int32)), (0, .ref (eA E b 0))]) S.1 S.2.1 dX1_wordsOnRows_1 rfl hl (by decide) rfl (fun ls hl => ?_)
  refine lv_iconst (v := 0) S.1 S.2.1 dX1_wordsOnRows_2 rfl ?_
  refine lv_istore_n (lv' := [(2, .int (0 : Int32)), (1, .int (0 : Int32)), (0, .ref (eA E b 0))]) S.1 S.2.1 dX1_wordsOnRows_3 rfl hl (by decide) rfl (fun ls hl => ?_)
  obtain ⟨n_12, hf⟩ := hf
  have L4 : ∀ (K30 : Int32 → MI → MJ → Prop), (∀ (x1_9 : Int32) (I_10 : MI) (J_11 : MJ), K30 x1_9 I_10 J_11 → Wj p l e (rmX1_wordsOnRows) s m args below meth c Qm E ps 3 I_10 J_11 30 [(1, .int x1_9)] []) → ∀ (n : Nat) (x1_1 : Int32) (x2_2 : Int32) (I_3 : MI) (J_4 : MJ), f_X1_wordsOnRows_L4 b K30 n x1_1 x2_2 I_3 J_4 → Wj p l e (rmX1_wordsOnRows) s m args below meth c Qm E ps 3 I_3 J_4 4 [(0, .ref (eA E b 0)), (1, .int x1_1), (2, .int x2_2)] [] := by
    intro K30 kx30 n
    induction n with
    | zero => intro x1_1 x2_2 I_3 J_4 hf; exact hf.elim
    | succ n ih4 =>
      intro x1_1 x2_2 I_3 J_4 hf
      have hf : f_X1_wordsOnRows_B4 b K30 (f_X1_wordsOnRows_L4 b K30 n) x1_1 x2_2 I_3 J_4 := hf
      intro H locs ls hP hD hS hl
      unfold f_X1_wordsOnRows_B4 at hf
      refine lv_iload_n S.1 S.2.1 dX1_wordsOnRows_4 rfl (lv_at hl 2 rfl) ?_
      refine lv_aload_n S.1 S.2.1 dX1_wordsOnRows_5 rfl (lv_at hl 0 rfl) ?_
      refine gfX1_0 S iX1 hK hP hB (hM 0 (by decide)) k1 dX1_wordsOnRows_6 ?_
      refine gfX4_3 S iX4 hK hP hB (hM 1 (by decide)) k2 dX1_wordsOnRows_9 ?_
      refine lv_icmp_ge (tgt := 30) S.1 S.2.1 dX1_wordsOnRows_12 (by decide) (fun h_5 => ?_) (fun h_5 => ?_)
      · have hf := hf.1 h_5
        exact kx30 _ _ _ hf _ _ _ hP hD hS (lv_sub hl [1] rfl)
      · have hf := hf.2 h_5
        refine lv_iload_n S.1 S.2.1 dX1_wordsOnRows_15 rfl (lv_at hl 1 rfl) ?_
        refine lv_aload_n S.1 S.2.1 dX1_wordsOnRows_16 rfl (lv_at hl 0 rfl) ?_
        refine gfX1_3 S iX1 hK hP hB (hM 0 (by decide)) k3 dX1_wordsOnRows_17 ?_
        refine lv_iload_n S.1 S.2.1 dX1_wordsOnRows_20 rfl (lv_at hl 2 rfl) ?_
        obtain ⟨h_6, hf⟩ := hf
        refine R_iald S.1 S.2.1 hK hP (hM 9 (by decide)) (IAg9 E hB) h_6 dX1_wordsOnRows_21 ?_
        refine lv_iadd S.1 S.2.1 dX1_wordsOnRows_22 ?_
        refine lv_topi (fun x1_7 ex1_7 => ?_)
        have hf := hf x1_7 ex1_7
        refine lv_istore_n (lv' := [(1, .int x1_7), (0, .ref (eA E b 0)), (2, .int x2_2)]) S.1 S.2.1 dX1_wordsOnRows_23 rfl hl (by decide) rfl (fun ls hl => ?_)
        refine nm_o hf (fun x2_8 ex2_8 hf => ?_)
        refine lv_iinc (v := x2_8) (lv' := [(2, .int x2_8), (1, .int x1_7), (0, .ref (eA E b 0))]) S.1 S.2.1 dX1_wordsOnRows_24 hl (k := 2) rfl (by rw [ex2_8]; rfl) (by decide) rfl (fun ls hl => ?_)
        refine lv_goto (tgt := 4) S.1 S.2.1 dX1_wordsOnRows_27 (by decide) ?_
        exact ih4 _ _ _ _ hf _ _ _ hP hD hS (lv_sub hl [2, 1, 0] rfl)
  refine L4 _ (fun x1_9 I_10 J_11 hf H locs ls hP hD hS hl => ?_)  n_12 _ _ _ _ hf _ _ _ hP hD hS (lv_sub hl [2, 1, 0] rfl)
  refine lv_iload_n S.1 S.2.1 dX1_wordsOnRows_30 rfl (lv_at hl 0 rfl) ?_
  exact hret hf rfl hP hD hS dX1_wordsOnRows_31
abbrev rmX1_filledRows : Room := { frames := 1, cells := 0, slots := 0, locals := 21 }
theorem yk_X1_filledRows : yOk yX1_filledRows RX1 0 := by unfold yOk; decide +kernel
def f_X1_filledRows_B4 (b : Nat) (K32 : Int32 → MI → MJ → Prop) (rec4 : Int32 → Int32 → MI → MJ → Prop) (x1_1 : Int32) (x2_2 : Int32) (I_3 : MI) (J_4 : MJ) : Prop :=
  (((I_3 b 1 3) ≤ x2_2 → K32 x1_1 I_3 J_4) ∧ (¬ (I_3 b 1 3) ≤ x2_2 → f_X1_freeTiles b x2_2 I_3 J_4 (fun (v_8 : Int32) (I_6 : MI) (J_7 : MJ) => ((v_8 = (0 : Int32) → ∀ x1_11 : Int32, x1_11 = x1_1 + (1 : Int32) → ∀ x2_12 : Int32, x2_12 = x2_2 + (1 : Int32) → rec4 x1_11 x2_12 I_6 J_7) ∧ (¬ v_8 = (0 : Int32) → ∀ x2_10 : Int32, x2_10 = x2_2 + (1 : Int32) → rec4 x1_1 x2_10 I_6 J_7)))))
def f_X1_filledRows_L4 (b : Nat) (K32 : Int32 → MI → MJ → Prop) : Nat → Int32 → Int32 → MI → MJ → Prop
  | 0, _, _, _, _ => False
  | n + 1, x1_1, x2_2, I_3, J_4 => f_X1_filledRows_B4 b K32 (f_X1_filledRows_L4 b K32 n) x1_1 x2_2 I_3 J_4
def f_X1_filledRows (b : Nat) (I : MI) (J : MJ) (Q : Int32 → MI → MJ → Prop) : Prop :=
  ∃ n : Nat, f_X1_filledRows_L4 b (fun (x1_13 : Int32) (I_14 : MI) (J_15 : MJ) => Q x1_13 I_14 J_15) n (0 : Int32) (0 : Int32) I J
set_option maxRecDepth 100000 in
set_option maxHeartbeats 4000000 in
theorem c_X1_filledRows {l : Launch} {E : EV} {ps : List (Nat × Nat)} {b : Nat} (hB : b < 11) (hM : ∀ r, r < 16 → (b, r) ∈ ps) {I : MI} {J : MJ} {Q : Int32 → MI → MJ → Prop} (hf : f_X1_filledRows b I J Q) : KI l yX1_filledRows wsX1_filledRows rmX1_filledRows E ps [.ref (eA E b 0)] I J Q := by
  refine K_ofI (cc := cX1_filledRows) (maxL := 3) (ty := .int) (by decide +kernel) rfl (Nat.le_of_ble_eq_true rfl) (fun p e s m args below meth c Qm hret S hK hX => ?_)
  have hA : ∀ q, s.heap.size ≤ q → AA E ps s.heap.size q := fun _ h => Or.inr h
  have k1 := S.2.2.2.2 (.fieldLink RX1 12 "RhymeRoofs$Game" "rules" "LRhymeRoofs$Rules;") (by decide +kernel)
  have iX1 : ∀ w ∈ wsX10, w ∈ wsX1_filledRows := fun _ h => List.mem_cons_of_mem _ (List.mem_append_left _ (List.mem_append_right _ h))
  have k2 := S.2.2.2.2 (.fieldLink RX1 83 "RhymeRoofs$Rules" "rows" "I") (by decide +kernel)
  have iX4 : ∀ w ∈ wsX40, w ∈ wsX1_filledRows := fun _ h => List.mem_cons_of_mem _ (List.mem_append_right _ h)
  intro H locs ls hP hD hS hl
  unfold f_X1_filledRows at hf
  refine lv_iconst (v := 0) S.1 S.2.1 dX1_filledRows_0 rfl ?_
  refine lv_istore_n (lv' := [(1, .int (0 : Int32)), (0, .ref (eA E b 0))]) S.1 S.2.1 dX1_filledRows_1 rfl hl (by decide) rfl (fun ls hl => ?_)
  refine lv_iconst (v := 0) S.1 S.2.1 dX1_filledRows_2 rfl ?_
  refine lv_istore_n (lv' := [(2, .int (0 : Int32)), (1, .int (0 : Int32)), (0, .ref (eA E b 0))]) S.1 S.2.1 dX1_filledRows_3 rfl hl (by decide) rfl (fun ls hl => ?_)
  obtain ⟨n_16, hf⟩ := hf
  have L4 : ∀ (K32 : Int32 → MI → MJ → Prop), (∀ (x1_13 : Int32) (I_14 : MI) (J_15 : MJ), K32 x1_13 I_14 J_15 → Wj p l e (rmX1_filledRows) s m args below meth c Qm E ps 3 I_14 J_15 32 [(1, .int x1_13)] []) → ∀ (n : Nat) (x1_1 : Int32) (x2_2 : Int32) (I_3 : MI) (J_4 : MJ), f_X1_filledRows_L4 b K32 n x1_1 x2_2 I_3 J_4 → Wj p l e (rmX1_filledRows) s m args below meth c Qm E ps 3 I_3 J_4 4 [(0, .ref (eA E b 0)), (1, .int x1_1), (2, .int x2_2)] [] := by
    intro K32 kx32 n
    induction n with
    | zero => intro x1_1 x2_2 I_3 J_4 hf; exact hf.elim
    | succ n ih4 =>
      intro x1_1 x2_2 I_3 J_4 hf
      have hf : f_X1_filledRows_B4 b K32 (f_X1_filledRows_L4 b K32 n) x1_1 x2_2 I_3 J_4 := hf
      intro H locs ls hP hD hS hl
      unfold f_X1_filledRows_B4 at hf
      refine lv_iload_n S.1 S.2.1 dX1_filledRows_4 rfl (lv_at hl 2 rfl) ?_
      refine lv_aload_n S.1 S.2.1 dX1_filledRows_5 rfl (lv_at hl 0 rfl) ?_
      refine gfX1_0 S iX1 hK hP hB (hM 0 (by decide)) k1 dX1_filledRows_6 ?_
      refine gfX4_3 S iX4 hK hP hB (hM 1 (by decide)) k2 dX1_filledRows_9 ?_
      refine lv_icmp_ge (tgt := 32) S.1 S.2.1 dX1_filledRows_12 (by decide) (fun h_5 => ?_) (fun h_5 => ?_)
      · have hf := hf.1 h_5
        exact kx32 _ _ _ hf _ _ _ hP hD hS (lv_sub hl [1] rfl)
      · have hf := hf.2 h_5
        refine lv_aload_n S.1 S.2.1 dX1_filledRows_15 rfl (lv_at hl 0 rfl) ?_
        refine lv_iload_n S.1 S.2.1 dX1_filledRows_16 rfl (lv_at hl 2 rfl) ?_
        refine R_cVi (As := [.int x2_2]) (rest := []) S (c_X1_freeTiles (hB := hB) (hM := hM)  hf) gX1_filledRows_X1_freeTiles rfl yk_X1_freeTiles ⟨⟨Nat.le_of_ble_eq_true rfl, Nat.le_of_ble_eq_true rfl⟩, rfl, rfl⟩ hK hP hD hS hX hA (hM 0 (by decide)) (cF_g E hB _ _ 0) rfl rfl hl.1 rfl (Nat.le_of_ble_eq_true rfl) ⟨Nat.zero_le _, Nat.zero_le _⟩ dX1_filledRows_17 (fun v_8 I_6 J_7 H locs hf hP hD hS => ?_)
        refine lv_if_ne (tgt := 26) S.1 S.2.1 dX1_filledRows_20 (by decide) (fun h_9 => ?_) (fun h_9 => ?_)
        · have hf := hf.2 h_9
          refine nm_o hf (fun x2_10 ex2_10 hf => ?_)
          refine lv_iinc (v := x2_10) (lv' := [(2, .int x2_10), (0, .ref (eA E b 0)), (1, .int x1_1)]) S.1 S.2.1 dX1_filledRows_26 hl (k := 2) rfl (by rw [ex2_10]; rfl) (by decide) rfl (fun ls hl => ?_)
          refine lv_goto (tgt := 4) S.1 S.2.1 dX1_filledRows_29 (by decide) ?_
          exact ih4 _ _ _ _ hf _ _ _ hP hD hS (lv_sub hl [1, 2, 0] rfl)
        · have hf := hf.1 h_9
          refine nm_o hf (fun x1_11 ex1_11 hf => ?_)
          refine lv_iinc (v := x1_11) (lv' := [(1, .int x1_11), (0, .ref (eA E b 0)), (2, .int x2_2)]) S.1 S.2.1 dX1_filledRows_23 hl (k := 1) rfl (by rw [ex1_11]; rfl) (by decide) rfl (fun ls hl => ?_)
          refine nm_o hf (fun x2_12 ex2_12 hf => ?_)
          refine lv_iinc (v := x2_12) (lv' := [(2, .int x2_12), (1, .int x1_11), (0, .ref (eA E b 0))]) S.1 S.2.1 dX1_filledRows_26 hl (k := 2) rfl (by rw [ex2_12]; rfl) (by decide) rfl (fun ls hl => ?_)
          refine lv_goto (tgt := 4) S.1 S.2.1 dX1_filledRows_29 (by decide) ?_
          exact ih4 _ _ _ _ hf _ _ _ hP hD hS (lv_sub hl [2, 1, 0] rfl)
  refine L4 _ (fun x1_13 I_14 J_15 hf H locs ls hP hD hS hl => ?_)  n_16 _ _ _ _ hf _ _ _ hP hD hS (lv_sub hl [2, 1, 0] rfl)
  refine lv_iload_n S.1 S.2.1 dX1_filledRows_32 rfl (lv_at hl 0 rfl) ?_
  exact hret hf rfl hP hD hS dX1_filledRows_33
abbrev rmX1_lettersOfHand : Room := { frames := 1, cells := 0, slots := 0, locals := 24 }
theorem yk_X1_lettersOfHand : yOk yX1_lettersOfHand RX1 1 := by unfold yOk; decide +kernel
def f_X1_lettersOfHand_B4 (b : Nat) (x1_1 : Int32) (K32 : Int32 → MI → MJ → Prop) (rec4 : Int32 → Int32 → MI → MJ → Prop) (x2_2 : Int32) (x3_3 : Int32) (I_4 : MI) (J_5 : MJ) : Prop :=
  (vp_in x1_1 4 ∧ (((I_4 b 13 x1_1.toNatClampNeg) ≤ x3_3 → K32 x2_2 I_4 J_5) ∧ (¬ (I_4 b 13 x1_1.toNatClampNeg) ≤ x3_3 → f_X1_wordOf b x1_1 x3_3 I_4 J_5 (fun (v_10 : Int64) (I_8 : MI) (J_9 : MJ) => f_X6_length v_10 I_8 J_9 (fun (v_13 : Int32) (I_11 : MI) (J_12 : MJ) => ∀ x2_14 : Int32, x2_14 = (x2_2 + v_13) → ∀ x3_15 : Int32, x3_15 = x3_3 + (1 : Int32) → rec4 x2_14 x3_15 I_11 J_12)))))
def f_X1_lettersOfHand_L4 (b : Nat) (x1_1 : Int32) (K32 : Int32 → MI → MJ → Prop) : Nat → Int32 → Int32 → MI → MJ → Prop
  | 0, _, _, _, _ => False
  | n + 1, x2_2, x3_3, I_4, J_5 => f_X1_lettersOfHand_B4 b x1_1 K32 (f_X1_lettersOfHand_L4 b x1_1 K32 n) x2_2 x3_3 I_4 J_5
def f_X1_lettersOfHand (b : Nat) (x1 : Int32) (I : MI) (J : MJ) (Q : Int32 → MI → MJ → Prop) : Prop :=
  ∃ n : Nat, f_X1_lettersOfHand_L4 b x1 (fun (x2_16 : Int32) (I_17 : MI) (J_18 : MJ) => Q x2_16 I_17 J_18) n (0 : Int32) (0 : Int32) I J
set_option maxRecDepth 100000 in
set_option maxHeartbeats 4000000 in
theorem c_X1_lettersOfHand {l : Launch} {E : EV} {ps : List (Nat × Nat)} {b : Nat} (hB : b < 11) (hM : ∀ r, r < 16 → (b, r) ∈ ps) {x1 : Int32} {I : MI} {J : MJ} {Q : Int32 → MI → MJ → Prop} (hf : f_X1_lettersOfHand b x1 I J Q) : KI l yX1_lettersOfHand wsX1_lettersOfHand rmX1_lettersOfHand E ps [.ref (eA E b 0), .int x1] I J Q := by
  refine K_ofI (cc := cX1_lettersOfHand) (maxL := 4) (ty := .int) (by decide +kernel) rfl (Nat.le_of_ble_eq_true rfl) (fun p e s m args below meth c Qm hret S hK hX => ?_)
  have hA : ∀ q, s.heap.size ≤ q → AA E ps s.heap.size q := fun _ h => Or.inr h
  have k1 := S.2.2.2.2 (.fieldLink RX1 38 "RhymeRoofs$Game" "handSize" "[I") (by decide +kernel)
  have iX1 : ∀ w ∈ wsX10, w ∈ wsX1_lettersOfHand := fun _ h => List.mem_cons_of_mem _ (List.mem_append_right _ h)
  intro H locs ls hP hD hS hl
  unfold f_X1_lettersOfHand at hf
  refine lv_iconst (v := 0) S.1 S.2.1 dX1_lettersOfHand_0 rfl ?_
  refine lv_istore_n (lv' := [(2, .int (0 : Int32)), (0, .ref (eA E b 0)), (1, .int x1)]) S.1 S.2.1 dX1_lettersOfHand_1 rfl hl (by decide) rfl (fun ls hl => ?_)
  refine lv_iconst (v := 0) S.1 S.2.1 dX1_lettersOfHand_2 rfl ?_
  refine lv_istore_n (lv' := [(3, .int (0 : Int32)), (2, .int (0 : Int32)), (0, .ref (eA E b 0)), (1, .int x1)]) S.1 S.2.1 dX1_lettersOfHand_3 rfl hl (by decide) rfl (fun ls hl => ?_)
  obtain ⟨n_19, hf⟩ := hf
  have L4 : ∀ (x1_1 : Int32), ∀ (K32 : Int32 → MI → MJ → Prop), (∀ (x2_16 : Int32) (I_17 : MI) (J_18 : MJ), K32 x2_16 I_17 J_18 → Wj p l e (rmX1_lettersOfHand) s m args below meth c Qm E ps 4 I_17 J_18 32 [(2, .int x2_16)] []) → ∀ (n : Nat) (x2_2 : Int32) (x3_3 : Int32) (I_4 : MI) (J_5 : MJ), f_X1_lettersOfHand_L4 b x1_1 K32 n x2_2 x3_3 I_4 J_5 → Wj p l e (rmX1_lettersOfHand) s m args below meth c Qm E ps 4 I_4 J_5 4 [(0, .ref (eA E b 0)), (1, .int x1_1), (2, .int x2_2), (3, .int x3_3)] [] := by
    intro x1_1 K32 kx32 n
    induction n with
    | zero => intro x2_2 x3_3 I_4 J_5 hf; exact hf.elim
    | succ n ih4 =>
      intro x2_2 x3_3 I_4 J_5 hf
      have hf : f_X1_lettersOfHand_B4 b x1_1 K32 (f_X1_lettersOfHand_L4 b x1_1 K32 n) x2_2 x3_3 I_4 J_5 := hf
      intro H locs ls hP hD hS hl
      unfold f_X1_lettersOfHand_B4 at hf
      refine lv_iload_n S.1 S.2.1 dX1_lettersOfHand_4 rfl (lv_at hl 3 rfl) ?_
      refine lv_aload_n S.1 S.2.1 dX1_lettersOfHand_5 rfl (lv_at hl 0 rfl) ?_
      refine gfX1_7 S iX1 hK hP hB (hM 0 (by decide)) k1 dX1_lettersOfHand_6 ?_
      refine lv_iload_n S.1 S.2.1 dX1_lettersOfHand_9 rfl (lv_at hl 1 rfl) ?_
      obtain ⟨h_6, hf⟩ := hf
      refine R_iald S.1 S.2.1 hK hP (hM 13 (by decide)) (IAg13 E hB) h_6 dX1_lettersOfHand_10 ?_
      refine lv_icmp_ge (tgt := 32) S.1 S.2.1 dX1_lettersOfHand_11 (by decide) (fun h_7 => ?_) (fun h_7 => ?_)
      · have hf := hf.1 h_7
        exact kx32 _ _ _ hf _ _ _ hP hD hS (lv_sub hl [2] rfl)
      · have hf := hf.2 h_7
        refine lv_iload_n S.1 S.2.1 dX1_lettersOfHand_14 rfl (lv_at hl 2 rfl) ?_
        refine lv_aload_n S.1 S.2.1 dX1_lettersOfHand_15 rfl (lv_at hl 0 rfl) ?_
        refine lv_iload_n S.1 S.2.1 dX1_lettersOfHand_16 rfl (lv_at hl 1 rfl) ?_
        refine lv_iload_n S.1 S.2.1 dX1_lettersOfHand_17 rfl (lv_at hl 3 rfl) ?_
        refine R_cVl (As := [.int x1_1, .int x3_3]) (rest := [.int x2_2]) S (c_X1_wordOf (hB := hB) (hM := hM)  hf) gX1_lettersOfHand_X1_wordOf rfl yk_X1_wordOf ⟨⟨Nat.le_of_ble_eq_true rfl, Nat.le_of_ble_eq_true rfl⟩, rfl, rfl⟩ hK hP hD hS hX hA (hM 0 (by decide)) (cF_g E hB _ _ 0) rfl rfl hl.1 rfl (Nat.le_of_ble_eq_true rfl) ⟨Nat.zero_le _, Nat.zero_le _⟩ dX1_lettersOfHand_18 (fun v_10 I_8 J_9 H locs hf hP hD hS => ?_)
        refine R_cSi (As := [.long v_10]) (rest := [.int x2_2]) S (c_X6_length   hf) gX1_lettersOfHand_X6_length rfl yk_X6_length ⟨⟨Nat.le_of_ble_eq_true rfl, Nat.le_of_ble_eq_true rfl⟩, rfl, rfl⟩ hK hP hD hS hX hA rfl hl.1 rfl (Nat.le_of_ble_eq_true rfl) ⟨Nat.zero_le _, Nat.zero_le _⟩ dX1_lettersOfHand_21 (fun v_13 I_11 J_12 H locs hf hP hD hS => ?_)
        refine lv_iadd S.1 S.2.1 dX1_lettersOfHand_24 ?_
        refine lv_topi (fun x2_14 ex2_14 => ?_)
        have hf := hf x2_14 ex2_14
        refine lv_istore_n (lv' := [(2, .int x2_14), (0, .ref (eA E b 0)), (1, .int x1_1), (3, .int x3_3)]) S.1 S.2.1 dX1_lettersOfHand_25 rfl hl (by decide) rfl (fun ls hl => ?_)
        refine nm_o hf (fun x3_15 ex3_15 hf => ?_)
        refine lv_iinc (v := x3_15) (lv' := [(3, .int x3_15), (2, .int x2_14), (0, .ref (eA E b 0)), (1, .int x1_1)]) S.1 S.2.1 dX1_lettersOfHand_26 hl (k := 3) rfl (by rw [ex3_15]; rfl) (by decide) rfl (fun ls hl => ?_)
        refine lv_goto (tgt := 4) S.1 S.2.1 dX1_lettersOfHand_29 (by decide) ?_
        exact ih4 _ _ _ _ hf _ _ _ hP hD hS (lv_sub hl [2, 3, 1, 0] rfl)
  refine L4 _ _ (fun x2_16 I_17 J_18 hf H locs ls hP hD hS hl => ?_)  n_19 _ _ _ _ hf _ _ _ hP hD hS (lv_sub hl [2, 3, 1, 0] rfl)
  refine lv_iload_n S.1 S.2.1 dX1_lettersOfHand_32 rfl (lv_at hl 0 rfl) ?_
  exact hret hf rfl hP hD hS dX1_lettersOfHand_33
abbrev rmX1_rowsOwnedBy : Room := { frames := 0, cells := 0, slots := 0, locals := 0 }
theorem yk_X1_rowsOwnedBy : yOk yX1_rowsOwnedBy RX1 1 := by unfold yOk; decide +kernel
def f_X1_rowsOwnedBy_B4 (b : Nat) (x1_1 : Int32) (K34 : Int32 → MI → MJ → Prop) (rec4 : Int32 → Int32 → MI → MJ → Prop) (x2_2 : Int32) (x3_3 : Int32) (I_4 : MI) (J_5 : MJ) : Prop :=
  (((I_4 b 1 3) ≤ x3_3 → K34 x2_2 I_4 J_5) ∧ (¬ (I_4 b 1 3) ≤ x3_3 → (vp_in x3_3 6 ∧ (((I_4 b 11 x3_3.toNatClampNeg) = x1_1 → ∀ x2_10 : Int32, x2_10 = x2_2 + (1 : Int32) → ∀ x3_11 : Int32, x3_11 = x3_3 + (1 : Int32) → rec4 x2_10 x3_11 I_4 J_5) ∧ (¬ (I_4 b 11 x3_3.toNatClampNeg) = x1_1 → ∀ x3_9 : Int32, x3_9 = x3_3 + (1 : Int32) → rec4 x2_2 x3_9 I_4 J_5)))))
def f_X1_rowsOwnedBy_L4 (b : Nat) (x1_1 : Int32) (K34 : Int32 → MI → MJ → Prop) : Nat → Int32 → Int32 → MI → MJ → Prop
  | 0, _, _, _, _ => False
  | n + 1, x2_2, x3_3, I_4, J_5 => f_X1_rowsOwnedBy_B4 b x1_1 K34 (f_X1_rowsOwnedBy_L4 b x1_1 K34 n) x2_2 x3_3 I_4 J_5
def f_X1_rowsOwnedBy (b : Nat) (x1 : Int32) (I : MI) (J : MJ) (Q : Int32 → MI → MJ → Prop) : Prop :=
  ∃ n : Nat, f_X1_rowsOwnedBy_L4 b x1 (fun (x2_12 : Int32) (I_13 : MI) (J_14 : MJ) => Q x2_12 I_13 J_14) n (0 : Int32) (0 : Int32) I J
set_option maxRecDepth 100000 in
set_option maxHeartbeats 4000000 in
theorem c_X1_rowsOwnedBy {l : Launch} {E : EV} {ps : List (Nat × Nat)} {b : Nat} (hB : b < 11) (hM : ∀ r, r < 16 → (b, r) ∈ ps) {x1 : Int32} {I : MI} {J : MJ} {Q : Int32 → MI → MJ → Prop} (hf : f_X1_rowsOwnedBy b x1 I J Q) : KI l yX1_rowsOwnedBy wsX1_rowsOwnedBy rmX1_rowsOwnedBy E ps [.ref (eA E b 0), .int x1] I J Q := by
  refine K_ofI (cc := cX1_rowsOwnedBy) (maxL := 4) (ty := .int) (by decide +kernel) rfl (Nat.le_of_ble_eq_true rfl) (fun p e s m args below meth c Qm hret S hK hX => ?_)
  have hA : ∀ q, s.heap.size ≤ q → AA E ps s.heap.size q := fun _ h => Or.inr h
  have k1 := S.2.2.2.2 (.fieldLink RX1 12 "RhymeRoofs$Game" "rules" "LRhymeRoofs$Rules;") (by decide +kernel)
  have iX1 : ∀ w ∈ wsX10, w ∈ wsX1_rowsOwnedBy := fun _ h => List.mem_cons_of_mem _ (List.mem_append_left _ (List.mem_append_right _ h))
  have k2 := S.2.2.2.2 (.fieldLink RX1 83 "RhymeRoofs$Rules" "rows" "I") (by decide +kernel)
  have iX4 : ∀ w ∈ wsX40, w ∈ wsX1_rowsOwnedBy := fun _ h => List.mem_cons_of_mem _ (List.mem_append_right _ h)
  have k3 := S.2.2.2.2 (.fieldLink RX1 32 "RhymeRoofs$Game" "ownerOf" "[I") (by decide +kernel)
  intro H locs ls hP hD hS hl
  unfold f_X1_rowsOwnedBy at hf
  refine lv_iconst (v := 0) S.1 S.2.1 dX1_rowsOwnedBy_0 rfl ?_
  refine lv_istore_n (lv' := [(2, .int (0 : Int32)), (0, .ref (eA E b 0)), (1, .int x1)]) S.1 S.2.1 dX1_rowsOwnedBy_1 rfl hl (by decide) rfl (fun ls hl => ?_)
  refine lv_iconst (v := 0) S.1 S.2.1 dX1_rowsOwnedBy_2 rfl ?_
  refine lv_istore_n (lv' := [(3, .int (0 : Int32)), (2, .int (0 : Int32)), (0, .ref (eA E b 0)), (1, .int x1)]) S.1 S.2.1 dX1_rowsOwnedBy_3 rfl hl (by decide) rfl (fun ls hl => ?_)
  obtain ⟨n_15, hf⟩ := hf
  have L4 : ∀ (x1_1 : Int32), ∀ (K34 : Int32 → MI → MJ → Prop), (∀ (x2_12 : Int32) (I_13 : MI) (J_14 : MJ), K34 x2_12 I_13 J_14 → Wj p l e (rmX1_rowsOwnedBy) s m args below meth c Qm E ps 4 I_13 J_14 34 [(2, .int x2_12)] []) → ∀ (n : Nat) (x2_2 : Int32) (x3_3 : Int32) (I_4 : MI) (J_5 : MJ), f_X1_rowsOwnedBy_L4 b x1_1 K34 n x2_2 x3_3 I_4 J_5 → Wj p l e (rmX1_rowsOwnedBy) s m args below meth c Qm E ps 4 I_4 J_5 4 [(0, .ref (eA E b 0)), (1, .int x1_1), (2, .int x2_2), (3, .int x3_3)] [] := by
    intro x1_1 K34 kx34 n
    induction n with
    | zero => intro x2_2 x3_3 I_4 J_5 hf; exact hf.elim
    | succ n ih4 =>
      intro x2_2 x3_3 I_4 J_5 hf
      have hf : f_X1_rowsOwnedBy_B4 b x1_1 K34 (f_X1_rowsOwnedBy_L4 b x1_1 K34 n) x2_2 x3_3 I_4 J_5 := hf
      intro H locs ls hP hD hS hl
      unfold f_X1_rowsOwnedBy_B4 at hf
      refine lv_iload_n S.1 S.2.1 dX1_rowsOwnedBy_4 rfl (lv_at hl 3 rfl) ?_
      refine lv_aload_n S.1 S.2.1 dX1_rowsOwnedBy_5 rfl (lv_at hl 0 rfl) ?_
      refine gfX1_0 S iX1 hK hP hB (hM 0 (by decide)) k1 dX1_rowsOwnedBy_6 ?_
      refine gfX4_3 S iX4 hK hP hB (hM 1 (by decide)) k2 dX1_rowsOwnedBy_9 ?_
      refine lv_icmp_ge (tgt := 34) S.1 S.2.1 dX1_rowsOwnedBy_12 (by decide) (fun h_6 => ?_) (fun h_6 => ?_)
      · have hf := hf.1 h_6
        exact kx34 _ _ _ hf _ _ _ hP hD hS (lv_sub hl [2] rfl)
      · have hf := hf.2 h_6
        refine lv_aload_n S.1 S.2.1 dX1_rowsOwnedBy_15 rfl (lv_at hl 0 rfl) ?_
        refine gfX1_5 S iX1 hK hP hB (hM 0 (by decide)) k3 dX1_rowsOwnedBy_16 ?_
        refine lv_iload_n S.1 S.2.1 dX1_rowsOwnedBy_19 rfl (lv_at hl 3 rfl) ?_
        obtain ⟨h_7, hf⟩ := hf
        refine R_iald S.1 S.2.1 hK hP (hM 11 (by decide)) (IAg11 E hB) h_7 dX1_rowsOwnedBy_20 ?_
        refine lv_iload_n S.1 S.2.1 dX1_rowsOwnedBy_21 rfl (lv_at hl 1 rfl) ?_
        refine lv_icmp_ne (tgt := 28) S.1 S.2.1 dX1_rowsOwnedBy_22 (by decide) (fun h_8 => ?_) (fun h_8 => ?_)
        · have hf := hf.2 h_8
          refine nm_o hf (fun x3_9 ex3_9 hf => ?_)
          refine lv_iinc (v := x3_9) (lv' := [(3, .int x3_9), (0, .ref (eA E b 0)), (1, .int x1_1), (2, .int x2_2)]) S.1 S.2.1 dX1_rowsOwnedBy_28 hl (k := 3) rfl (by rw [ex3_9]; rfl) (by decide) rfl (fun ls hl => ?_)
          refine lv_goto (tgt := 4) S.1 S.2.1 dX1_rowsOwnedBy_31 (by decide) ?_
          exact ih4 _ _ _ _ hf _ _ _ hP hD hS (lv_sub hl [1, 2, 3, 0] rfl)
        · have hf := hf.1 h_8
          refine nm_o hf (fun x2_10 ex2_10 hf => ?_)
          refine lv_iinc (v := x2_10) (lv' := [(2, .int x2_10), (0, .ref (eA E b 0)), (1, .int x1_1), (3, .int x3_3)]) S.1 S.2.1 dX1_rowsOwnedBy_25 hl (k := 2) rfl (by rw [ex2_10]; rfl) (by decide) rfl (fun ls hl => ?_)
          refine nm_o hf (fun x3_11 ex3_11 hf => ?_)
          refine lv_iinc (v := x3_11) (lv' := [(3, .int x3_11), (2, .int x2_10), (0, .ref (eA E b 0)), (1, .int x1_1)]) S.1 S.2.1 dX1_rowsOwnedBy_28 hl (k := 3) rfl (by rw [ex3_11]; rfl) (by decide) rfl (fun ls hl => ?_)
          refine lv_goto (tgt := 4) S.1 S.2.1 dX1_rowsOwnedBy_31 (by decide) ?_
          exact ih4 _ _ _ _ hf _ _ _ hP hD hS (lv_sub hl [2, 3, 1, 0] rfl)
  refine L4 _ _ (fun x2_12 I_13 J_14 hf H locs ls hP hD hS hl => ?_)  n_15 _ _ _ _ hf _ _ _ hP hD hS (lv_sub hl [2, 3, 1, 0] rfl)
  refine lv_iload_n S.1 S.2.1 dX1_rowsOwnedBy_34 rfl (lv_at hl 0 rfl) ?_
  exact hret hf rfl hP hD hS dX1_rowsOwnedBy_35
abbrev rmX1_obstacle : Room := { frames := 1, cells := 0, slots := 0, locals := 29 }
theorem yk_X1_obstacle : yOk yX1_obstacle RX1 2 := by unfold yOk; decide +kernel
def f_X1_obstacle (b : Nat) (x1 : Int64) (x3 : Int32) (I : MI) (J : MJ) (Q : Int32 → MI → MJ → Prop) : Prop :=
  f_X6_length x1 I J (fun (v_3 : Int32) (I_1 : MI) (J_2 : MJ) => f_X1_freeTiles b x3 I_1 J_2 (fun (v_6 : Int32) (I_4 : MI) (J_5 : MJ) => ((v_3 ≤ v_6 → (vp_in x3 6 ∧ (((I_4 b 9 x3.toNatClampNeg) = (0 : Int32) → Q (0 : Int32) I_4 J_5) ∧ (¬ (I_4 b 9 x3.toNatClampNeg) = (0 : Int32) → (vp_in x3 6 ∧ ((x1 = (J_5 b 10 x3.toNatClampNeg) → Q (3 : Int32) I_4 J_5) ∧ (¬ x1 = (J_5 b 10 x3.toNatClampNeg) → (vp_in x3 6 ∧ f_X4_rhymeOf b x1 (J_5 b 10 x3.toNatClampNeg) I_4 J_5 (fun (v_15 : Int32) (I_13 : MI) (J_14 : MJ) => (((I_13 b 1 5) ≤ v_15 → Q (0 : Int32) I_13 J_14) ∧ (¬ (I_13 b 1 5) ≤ v_15 → Q (4 : Int32) I_13 J_14))))))))))) ∧ (¬ v_3 ≤ v_6 → Q (2 : Int32) I_4 J_5))))
set_option maxRecDepth 100000 in
set_option maxHeartbeats 4000000 in
theorem c_X1_obstacle {l : Launch} {E : EV} {ps : List (Nat × Nat)} {b : Nat} (hB : b < 11) (hM : ∀ r, r < 16 → (b, r) ∈ ps) {x1 : Int64} {x3 : Int32} {I : MI} {J : MJ} {Q : Int32 → MI → MJ → Prop} (hf : f_X1_obstacle b x1 x3 I J Q) : KI l yX1_obstacle wsX1_obstacle rmX1_obstacle E ps [.ref (eA E b 0), .long x1, .int x3] I J Q := by
  refine K_ofI (cc := cX1_obstacle) (maxL := 4) (ty := .int) (by decide +kernel) rfl (Nat.le_of_ble_eq_true rfl) (fun p e s m args below meth c Qm hret S hK hX => ?_)
  have hA : ∀ q, s.heap.size ≤ q → AA E ps s.heap.size q := fun _ h => Or.inr h
  have k1 := S.2.2.2.2 (.fieldLink RX1 25 "RhymeRoofs$Game" "wordsOn" "[I") (by decide +kernel)
  have iX1 : ∀ w ∈ wsX10, w ∈ wsX1_obstacle := fun _ h => List.mem_cons_of_mem _ (List.mem_append_left _ (List.mem_append_right _ h))
  have k2 := S.2.2.2.2 (.fieldLink RX1 28 "RhymeRoofs$Game" "lastOn" "[J") (by decide +kernel)
  have k3 := S.2.2.2.2 (.fieldLink RX1 12 "RhymeRoofs$Game" "rules" "LRhymeRoofs$Rules;") (by decide +kernel)
  have k4 := S.2.2.2.2 (.fieldLink RX1 89 "RhymeRoofs$Rules" "need" "I") (by decide +kernel)
  have iX4 : ∀ w ∈ wsX40, w ∈ wsX1_obstacle := fun _ h => List.mem_cons_of_mem _ (List.mem_append_right _ h)
  intro H locs ls hP hD hS hl
  unfold f_X1_obstacle at hf
  refine lv_lload_n S.1 S.2.1 dX1_obstacle_0 rfl (lv_at hl 1 rfl) ?_
  refine R_cSi (As := [.long x1]) (rest := []) S (c_X6_length   hf) gX1_obstacle_X6_length rfl yk_X6_length ⟨⟨Nat.le_of_ble_eq_true rfl, Nat.le_of_ble_eq_true rfl⟩, rfl, rfl⟩ hK hP hD hS hX hA rfl hl.1 rfl (Nat.le_of_ble_eq_true rfl) ⟨Nat.zero_le _, Nat.zero_le _⟩ dX1_obstacle_1 (fun v_3 I_1 J_2 H locs hf hP hD hS => ?_)
  refine lv_aload_n S.1 S.2.1 dX1_obstacle_4 rfl (lv_at hl 0 rfl) ?_
  refine lv_iload_n S.1 S.2.1 dX1_obstacle_5 rfl (lv_at hl 2 rfl) ?_
  refine R_cVi (As := [.int x3]) (rest := [.int v_3]) S (c_X1_freeTiles (hB := hB) (hM := hM)  hf) gX1_obstacle_X1_freeTiles rfl yk_X1_freeTiles ⟨⟨Nat.le_of_ble_eq_true rfl, Nat.le_of_ble_eq_true rfl⟩, rfl, rfl⟩ hK hP hD hS hX hA (hM 0 (by decide)) (cF_g E hB _ _ 0) rfl rfl hl.1 rfl (Nat.le_of_ble_eq_true rfl) ⟨Nat.zero_le _, Nat.zero_le _⟩ dX1_obstacle_6 (fun v_6 I_4 J_5 H locs hf hP hD hS => ?_)
  refine lv_icmp_le (tgt := 14) S.1 S.2.1 dX1_obstacle_9 (by decide) (fun h_7 => ?_) (fun h_7 => ?_)
  · have hf := hf.1 h_7
    refine lv_aload_n S.1 S.2.1 dX1_obstacle_14 rfl (lv_at hl 0 rfl) ?_
    refine gfX1_3 S iX1 hK hP hB (hM 0 (by decide)) k1 dX1_obstacle_15 ?_
    refine lv_iload_n S.1 S.2.1 dX1_obstacle_18 rfl (lv_at hl 2 rfl) ?_
    obtain ⟨h_8, hf⟩ := hf
    refine R_iald S.1 S.2.1 hK hP (hM 9 (by decide)) (IAg9 E hB) h_8 dX1_obstacle_19 ?_
    refine lv_if_ne (tgt := 25) S.1 S.2.1 dX1_obstacle_20 (by decide) (fun h_9 => ?_) (fun h_9 => ?_)
    · have hf := hf.2 h_9
      refine lv_lload_n S.1 S.2.1 dX1_obstacle_25 rfl (lv_at hl 1 rfl) ?_
      refine lv_aload_n S.1 S.2.1 dX1_obstacle_26 rfl (lv_at hl 0 rfl) ?_
      refine gfX1_4 S iX1 hK hP hB (hM 0 (by decide)) k2 dX1_obstacle_27 ?_
      refine lv_iload_n S.1 S.2.1 dX1_obstacle_30 rfl (lv_at hl 2 rfl) ?_
      obtain ⟨h_10, hf⟩ := hf
      refine R_lald S.1 S.2.1 hK hP (hM 10 (by decide)) (LAg10 E hB) h_10 dX1_obstacle_31 ?_
      refine W.lcmp S.1 S.2.1 dX1_obstacle_32 ?_
      refine lv_if_ne (tgt := 38) S.1 S.2.1 dX1_obstacle_33 (by decide) (fun h_11 => ?_) (fun h_11 => ?_)
      · have hf := hf.2 (fun q => h_11 ((lg_eq0 _ _).mpr q))
        refine lv_aload_n S.1 S.2.1 dX1_obstacle_38 rfl (lv_at hl 0 rfl) ?_
        refine gfX1_0 S iX1 hK hP hB (hM 0 (by decide)) k3 dX1_obstacle_39 ?_
        refine lv_lload_n S.1 S.2.1 dX1_obstacle_42 rfl (lv_at hl 1 rfl) ?_
        refine lv_aload_n S.1 S.2.1 dX1_obstacle_43 rfl (lv_at hl 0 rfl) ?_
        refine gfX1_4 S iX1 hK hP hB (hM 0 (by decide)) k2 dX1_obstacle_44 ?_
        refine lv_iload_n S.1 S.2.1 dX1_obstacle_47 rfl (lv_at hl 2 rfl) ?_
        obtain ⟨h_12, hf⟩ := hf
        refine R_lald S.1 S.2.1 hK hP (hM 10 (by decide)) (LAg10 E hB) h_12 dX1_obstacle_48 ?_
        refine R_cVi (As := [.long x1, .long (J_5 b 10 x3.toNatClampNeg)]) (rest := []) S (c_X4_rhymeOf (hB := hB) (hM := hM)  hf) gX1_obstacle_X4_rhymeOf rfl yk_X4_rhymeOf ⟨⟨Nat.le_of_ble_eq_true rfl, Nat.le_of_ble_eq_true rfl⟩, rfl, rfl⟩ hK hP hD hS hX hA (hM 1 (by decide)) (cF_g E hB _ _ 1) rfl rfl hl.1 rfl (Nat.le_of_ble_eq_true rfl) ⟨Nat.zero_le _, Nat.zero_le _⟩ dX1_obstacle_49 (fun v_15 I_13 J_14 H locs hf hP hD hS => ?_)
        refine lv_aload_n S.1 S.2.1 dX1_obstacle_52 rfl (lv_at hl 0 rfl) ?_
        refine gfX1_0 S iX1 hK hP hB (hM 0 (by decide)) k3 dX1_obstacle_53 ?_
        refine gfX4_5 S iX4 hK hP hB (hM 1 (by decide)) k4 dX1_obstacle_56 ?_
        refine lv_icmp_ge (tgt := 66) S.1 S.2.1 dX1_obstacle_59 (by decide) (fun h_16 => ?_) (fun h_16 => ?_)
        · have hf := hf.1 h_16
          refine lv_iconst (v := 0) S.1 S.2.1 dX1_obstacle_66 rfl ?_
          exact hret hf rfl hP hD hS dX1_obstacle_67
        · have hf := hf.2 h_16
          refine lv_iconst (v := 4) S.1 S.2.1 dX1_obstacle_62 rfl ?_
          refine lv_goto (tgt := 67) S.1 S.2.1 dX1_obstacle_63 (by decide) ?_
          exact hret hf rfl hP hD hS dX1_obstacle_67
      · have hf := hf.1 ((lg_eq0 _ _).mp h_11)
        refine lv_iconst (v := 3) S.1 S.2.1 dX1_obstacle_36 rfl ?_
        exact hret hf rfl hP hD hS dX1_obstacle_37
    · have hf := hf.1 h_9
      refine lv_iconst (v := 0) S.1 S.2.1 dX1_obstacle_23 rfl ?_
      exact hret hf rfl hP hD hS dX1_obstacle_24
  · have hf := hf.2 h_7
    refine lv_iconst (v := 2) S.1 S.2.1 dX1_obstacle_12 rfl ?_
    exact hret hf rfl hP hD hS dX1_obstacle_13
abbrev rmX1_canFill : Room := { frames := 2, cells := 0, slots := 0, locals := 52 }
theorem yk_X1_canFill : yOk yX1_canFill RX1 2 := by unfold yOk; decide +kernel
def f_X1_canFill_B2 (b : Nat) (x1_1 : Int32) (x2_2 : Int32) (K51 : MI → MJ → Prop) (K43 : MI → MJ → Prop) (rec2 : Int32 → MI → MJ → Prop) (x3_3 : Int32) (I_4 : MI) (J_5 : MJ) : Prop :=
  (vp_in x1_1 4 ∧ (((I_4 b 13 x1_1.toNatClampNeg) ≤ x3_3 → K51 I_4 J_5) ∧ (¬ (I_4 b 13 x1_1.toNatClampNeg) ≤ x3_3 → f_X1_wordOf b x1_1 x3_3 I_4 J_5 (fun (v_10 : Int64) (I_8 : MI) (J_9 : MJ) => f_X6_length v_10 I_8 J_9 (fun (v_13 : Int32) (I_11 : MI) (J_12 : MJ) => f_X1_freeTiles b x2_2 I_11 J_12 (fun (v_16 : Int32) (I_14 : MI) (J_15 : MJ) => ((v_13 = v_16 → f_X1_obstacle b v_10 x2_2 I_14 J_15 (fun (v_21 : Int32) (I_19 : MI) (J_20 : MJ) => ((v_21 = (0 : Int32) → K43 I_19 J_20) ∧ (¬ v_21 = (0 : Int32) → ∀ x3_23 : Int32, x3_23 = x3_3 + (1 : Int32) → rec2 x3_23 I_19 J_20)))) ∧ (¬ v_13 = v_16 → ∀ x3_18 : Int32, x3_18 = x3_3 + (1 : Int32) → rec2 x3_18 I_14 J_15))))))))
def f_X1_canFill_L2 (b : Nat) (x1_1 : Int32) (x2_2 : Int32) (K51 : MI → MJ → Prop) (K43 : MI → MJ → Prop) : Nat → Int32 → MI → MJ → Prop
  | 0, _, _, _ => False
  | n + 1, x3_3, I_4, J_5 => f_X1_canFill_B2 b x1_1 x2_2 K51 K43 (f_X1_canFill_L2 b x1_1 x2_2 K51 K43 n) x3_3 I_4 J_5
def f_X1_canFill (b : Nat) (x1 : Int32) (x2 : Int32) (I : MI) (J : MJ) (Q : Int32 → MI → MJ → Prop) : Prop :=
  ∃ n : Nat, f_X1_canFill_L2 b x1 x2 (fun (I_24 : MI) (J_25 : MJ) => Q (0 : Int32) I_24 J_25) (fun (I_26 : MI) (J_27 : MJ) => Q (1 : Int32) I_26 J_27) n (0 : Int32) I J
set_option maxRecDepth 100000 in
set_option maxHeartbeats 4000000 in
theorem c_X1_canFill {l : Launch} {E : EV} {ps : List (Nat × Nat)} {b : Nat} (hB : b < 11) (hM : ∀ r, r < 16 → (b, r) ∈ ps) {x1 : Int32} {x2 : Int32} {I : MI} {J : MJ} {Q : Int32 → MI → MJ → Prop} (hf : f_X1_canFill b x1 x2 I J Q) : KI l yX1_canFill wsX1_canFill rmX1_canFill E ps [.ref (eA E b 0), .int x1, .int x2] I J Q := by
  refine K_ofI (cc := cX1_canFill) (maxL := 6) (ty := .boolean) (by decide +kernel) rfl (Nat.le_of_ble_eq_true rfl) (fun p e s m args below meth c Qm hret S hK hX => ?_)
  have hA : ∀ q, s.heap.size ≤ q → AA E ps s.heap.size q := fun _ h => Or.inr h
  have k1 := S.2.2.2.2 (.fieldLink RX1 38 "RhymeRoofs$Game" "handSize" "[I") (by decide +kernel)
  have iX1 : ∀ w ∈ wsX10, w ∈ wsX1_canFill := fun _ h => List.mem_cons_of_mem _ (List.mem_append_left _ (List.mem_append_right _ h))
  intro H locs ls hP hD hS hl
  unfold f_X1_canFill at hf
  refine lv_iconst (v := 0) S.1 S.2.1 dX1_canFill_0 rfl ?_
  refine lv_istore_n (lv' := [(3, .int (0 : Int32)), (0, .ref (eA E b 0)), (1, .int x1), (2, .int x2)]) S.1 S.2.1 dX1_canFill_1 rfl hl (by decide) rfl (fun ls hl => ?_)
  obtain ⟨n_28, hf⟩ := hf
  have L2 : ∀ (x1_1 : Int32), ∀ (x2_2 : Int32), ∀ (K51 : MI → MJ → Prop), ∀ (K43 : MI → MJ → Prop), (∀ (I_24 : MI) (J_25 : MJ), K51 I_24 J_25 → Wj p l e (rmX1_canFill) s m args below meth c Qm E ps 6 I_24 J_25 51 [] []) → (∀ (I_26 : MI) (J_27 : MJ), K43 I_26 J_27 → Wj p l e (rmX1_canFill) s m args below meth c Qm E ps 6 I_26 J_27 43 [] []) → ∀ (n : Nat) (x3_3 : Int32) (I_4 : MI) (J_5 : MJ), f_X1_canFill_L2 b x1_1 x2_2 K51 K43 n x3_3 I_4 J_5 → Wj p l e (rmX1_canFill) s m args below meth c Qm E ps 6 I_4 J_5 2 [(0, .ref (eA E b 0)), (1, .int x1_1), (2, .int x2_2), (3, .int x3_3)] [] := by
    intro x1_1 x2_2 K51 K43 kx51 kx43 n
    induction n with
    | zero => intro x3_3 I_4 J_5 hf; exact hf.elim
    | succ n ih2 =>
      intro x3_3 I_4 J_5 hf
      have hf : f_X1_canFill_B2 b x1_1 x2_2 K51 K43 (f_X1_canFill_L2 b x1_1 x2_2 K51 K43 n) x3_3 I_4 J_5 := hf
      intro H locs ls hP hD hS hl
      unfold f_X1_canFill_B2 at hf
      refine lv_iload_n S.1 S.2.1 dX1_canFill_2 rfl (lv_at hl 3 rfl) ?_
      refine lv_aload_n S.1 S.2.1 dX1_canFill_3 rfl (lv_at hl 0 rfl) ?_
      refine gfX1_7 S iX1 hK hP hB (hM 0 (by decide)) k1 dX1_canFill_4 ?_
      refine lv_iload_n S.1 S.2.1 dX1_canFill_7 rfl (lv_at hl 1 rfl) ?_
      obtain ⟨h_6, hf⟩ := hf
      refine R_iald S.1 S.2.1 hK hP (hM 13 (by decide)) (IAg13 E hB) h_6 dX1_canFill_8 ?_
      refine lv_icmp_ge (tgt := 51) S.1 S.2.1 dX1_canFill_9 (by decide) (fun h_7 => ?_) (fun h_7 => ?_)
      · have hf := hf.1 h_7
        exact kx51 _ _ hf _ _ _ hP hD hS (lv_sub hl [] rfl)
      · have hf := hf.2 h_7
        refine lv_aload_n S.1 S.2.1 dX1_canFill_12 rfl (lv_at hl 0 rfl) ?_
        refine lv_iload_n S.1 S.2.1 dX1_canFill_13 rfl (lv_at hl 1 rfl) ?_
        refine lv_iload_n S.1 S.2.1 dX1_canFill_14 rfl (lv_at hl 3 rfl) ?_
        refine R_cVl (As := [.int x1_1, .int x3_3]) (rest := []) S (c_X1_wordOf (hB := hB) (hM := hM)  hf) gX1_canFill_X1_wordOf rfl yk_X1_wordOf ⟨⟨Nat.le_of_ble_eq_true rfl, Nat.le_of_ble_eq_true rfl⟩, rfl, rfl⟩ hK hP hD hS hX hA (hM 0 (by decide)) (cF_g E hB _ _ 0) rfl rfl hl.1 rfl (Nat.le_of_ble_eq_true rfl) ⟨Nat.zero_le _, Nat.zero_le _⟩ dX1_canFill_15 (fun v_10 I_8 J_9 H locs hf hP hD hS => ?_)
        refine lv_lstore (lv' := [(4, .long v_10), (0, .ref (eA E b 0)), (1, .int x1_1), (2, .int x2_2), (3, .int x3_3)]) S.1 S.2.1 dX1_canFill_18 hl (by decide) rfl (fun ls hl => ?_)
        refine lv_lload S.1 S.2.1 dX1_canFill_20 (lv_at hl 0 rfl) ?_
        refine R_cSi (As := [.long v_10]) (rest := []) S (c_X6_length   hf) gX1_canFill_X6_length rfl yk_X6_length ⟨⟨Nat.le_of_ble_eq_true rfl, Nat.le_of_ble_eq_true rfl⟩, rfl, rfl⟩ hK hP hD hS hX hA rfl hl.1 rfl (Nat.le_of_ble_eq_true rfl) ⟨Nat.zero_le _, Nat.zero_le _⟩ dX1_canFill_22 (fun v_13 I_11 J_12 H locs hf hP hD hS => ?_)
        refine lv_aload_n S.1 S.2.1 dX1_canFill_25 rfl (lv_at hl 1 rfl) ?_
        refine lv_iload_n S.1 S.2.1 dX1_canFill_26 rfl (lv_at hl 3 rfl) ?_
        refine R_cVi (As := [.int x2_2]) (rest := [.int v_13]) S (c_X1_freeTiles (hB := hB) (hM := hM)  hf) gX1_canFill_X1_freeTiles rfl yk_X1_freeTiles ⟨⟨Nat.le_of_ble_eq_true rfl, Nat.le_of_ble_eq_true rfl⟩, rfl, rfl⟩ hK hP hD hS hX hA (hM 0 (by decide)) (cF_g E hB _ _ 0) rfl rfl hl.1 rfl (Nat.le_of_ble_eq_true rfl) ⟨Nat.zero_le _, Nat.zero_le _⟩ dX1_canFill_27 (fun v_16 I_14 J_15 H locs hf hP hD hS => ?_)
        refine lv_icmp_ne (tgt := 45) S.1 S.2.1 dX1_canFill_30 (by decide) (fun h_17 => ?_) (fun h_17 => ?_)
        · have hf := hf.2 h_17
          refine nm_o hf (fun x3_18 ex3_18 hf => ?_)
          refine lv_iinc (v := x3_18) (lv' := [(3, .int x3_18), (4, .long v_10), (0, .ref (eA E b 0)), (1, .int x1_1), (2, .int x2_2)]) S.1 S.2.1 dX1_canFill_45 hl (k := 4) rfl (by rw [ex3_18]; rfl) (by decide) rfl (fun ls hl => ?_)
          refine lv_goto (tgt := 2) S.1 S.2.1 dX1_canFill_48 (by decide) ?_
          exact ih2 _ _ _ hf _ _ _ hP hD hS (lv_sub hl [2, 3, 4, 0] rfl)
        · have hf := hf.1 h_17
          refine lv_aload_n S.1 S.2.1 dX1_canFill_33 rfl (lv_at hl 1 rfl) ?_
          refine lv_lload S.1 S.2.1 dX1_canFill_34 (lv_at hl 0 rfl) ?_
          refine lv_iload_n S.1 S.2.1 dX1_canFill_36 rfl (lv_at hl 3 rfl) ?_
          refine R_cVi (As := [.long v_10, .int x2_2]) (rest := []) S (c_X1_obstacle (hB := hB) (hM := hM)  hf) gX1_canFill_X1_obstacle rfl yk_X1_obstacle ⟨⟨Nat.le_of_ble_eq_true rfl, Nat.le_of_ble_eq_true rfl⟩, rfl, rfl⟩ hK hP hD hS hX hA (hM 0 (by decide)) (cF_g E hB _ _ 0) rfl rfl hl.1 rfl (Nat.le_of_ble_eq_true rfl) ⟨Nat.zero_le _, Nat.zero_le _⟩ dX1_canFill_37 (fun v_21 I_19 J_20 H locs hf hP hD hS => ?_)
          refine lv_if_ne (tgt := 45) S.1 S.2.1 dX1_canFill_40 (by decide) (fun h_22 => ?_) (fun h_22 => ?_)
          · have hf := hf.2 h_22
            refine nm_o hf (fun x3_23 ex3_23 hf => ?_)
            refine lv_iinc (v := x3_23) (lv' := [(3, .int x3_23), (4, .long v_10), (0, .ref (eA E b 0)), (1, .int x1_1), (2, .int x2_2)]) S.1 S.2.1 dX1_canFill_45 hl (k := 4) rfl (by rw [ex3_23]; rfl) (by decide) rfl (fun ls hl => ?_)
            refine lv_goto (tgt := 2) S.1 S.2.1 dX1_canFill_48 (by decide) ?_
            exact ih2 _ _ _ hf _ _ _ hP hD hS (lv_sub hl [2, 3, 4, 0] rfl)
          · have hf := hf.1 h_22
            exact kx43 _ _ hf _ _ _ hP hD hS (lv_sub hl [] rfl)
  refine L2 _ _ _ _ (fun I_24 J_25 hf H locs ls hP hD hS hl => ?_) (fun I_26 J_27 hf H locs ls hP hD hS hl => ?_)  n_28 _ _ _ hf _ _ _ hP hD hS (lv_sub hl [1, 2, 3, 0] rfl)
  · refine lv_iconst (v := 0) S.1 S.2.1 dX1_canFill_51 rfl ?_
    exact hret hf rfl hP hD hS dX1_canFill_52
  · refine lv_iconst (v := 1) S.1 S.2.1 dX1_canFill_43 rfl ?_
    exact hret hf rfl hP hD hS dX1_canFill_44
abbrev rmX1_pointsFor : Room := { frames := 1, cells := 0, slots := 0, locals := 29 }
theorem yk_X1_pointsFor : yOk yX1_pointsFor RX1 2 := by unfold yOk; decide +kernel
def f_X1_pointsFor (b : Nat) (x1 : Int64) (x3 : Int32) (I : MI) (J : MJ) (Q : Int32 → MI → MJ → Prop) : Prop :=
  f_X6_length x1 I J (fun (v_3 : Int32) (I_1 : MI) (J_2 : MJ) => (vp_in x3 6 ∧ f_X4_rhymeOf b x1 (J_2 b 10 x3.toNatClampNeg) I_1 J_2 (fun (v_7 : Int32) (I_5 : MI) (J_6 : MJ) => ∀ x5_8 : Int32, x5_8 = (v_3 + ((I_1 b 1 6) * v_7)) → f_X1_freeTiles b x3 I_5 J_6 (fun (v_11 : Int32) (I_9 : MI) (J_10 : MJ) => ((v_3 = v_11 → (vp_in x3 6 ∧ ∀ x5_14 : Int32, x5_14 = (x5_8 + ((I_9 b 1 7) * ((I_9 b 9 x3.toNatClampNeg) + (1 : Int32)))) → Q x5_14 I_9 J_10)) ∧ (¬ v_3 = v_11 → Q x5_8 I_9 J_10))))))
set_option maxRecDepth 100000 in
set_option maxHeartbeats 4000000 in
theorem c_X1_pointsFor {l : Launch} {E : EV} {ps : List (Nat × Nat)} {b : Nat} (hB : b < 11) (hM : ∀ r, r < 16 → (b, r) ∈ ps) {x1 : Int64} {x3 : Int32} {I : MI} {J : MJ} {Q : Int32 → MI → MJ → Prop} (hf : f_X1_pointsFor b x1 x3 I J Q) : KI l yX1_pointsFor wsX1_pointsFor rmX1_pointsFor E ps [.ref (eA E b 0), .long x1, .int x3] I J Q := by
  refine K_ofI (cc := cX1_pointsFor) (maxL := 6) (ty := .int) (by decide +kernel) rfl (Nat.le_of_ble_eq_true rfl) (fun p e s m args below meth c Qm hret S hK hX => ?_)
  have hA : ∀ q, s.heap.size ≤ q → AA E ps s.heap.size q := fun _ h => Or.inr h
  have k1 := S.2.2.2.2 (.fieldLink RX1 12 "RhymeRoofs$Game" "rules" "LRhymeRoofs$Rules;") (by decide +kernel)
  have iX1 : ∀ w ∈ wsX10, w ∈ wsX1_pointsFor := fun _ h => List.mem_cons_of_mem _ (List.mem_append_left _ (List.mem_append_right _ h))
  have k2 := S.2.2.2.2 (.fieldLink RX1 92 "RhymeRoofs$Rules" "bonus" "I") (by decide +kernel)
  have iX4 : ∀ w ∈ wsX40, w ∈ wsX1_pointsFor := fun _ h => List.mem_cons_of_mem _ (List.mem_append_right _ h)
  have k3 := S.2.2.2.2 (.fieldLink RX1 28 "RhymeRoofs$Game" "lastOn" "[J") (by decide +kernel)
  have k4 := S.2.2.2.2 (.fieldLink RX1 95 "RhymeRoofs$Rules" "crown" "I") (by decide +kernel)
  have k5 := S.2.2.2.2 (.fieldLink RX1 25 "RhymeRoofs$Game" "wordsOn" "[I") (by decide +kernel)
  intro H locs ls hP hD hS hl
  unfold f_X1_pointsFor at hf
  refine lv_lload_n S.1 S.2.1 dX1_pointsFor_0 rfl (lv_at hl 1 rfl) ?_
  refine R_cSi (As := [.long x1]) (rest := []) S (c_X6_length   hf) gX1_pointsFor_X6_length rfl yk_X6_length ⟨⟨Nat.le_of_ble_eq_true rfl, Nat.le_of_ble_eq_true rfl⟩, rfl, rfl⟩ hK hP hD hS hX hA rfl hl.1 rfl (Nat.le_of_ble_eq_true rfl) ⟨Nat.zero_le _, Nat.zero_le _⟩ dX1_pointsFor_1 (fun v_3 I_1 J_2 H locs hf hP hD hS => ?_)
  refine lv_istore (lv' := [(4, .int v_3), (0, .ref (eA E b 0)), (1, .long x1), (3, .int x3)]) S.1 S.2.1 dX1_pointsFor_4 hl (by decide) rfl (fun ls hl => ?_)
  refine lv_iload S.1 S.2.1 dX1_pointsFor_6 (lv_at hl 0 rfl) ?_
  refine lv_aload_n S.1 S.2.1 dX1_pointsFor_8 rfl (lv_at hl 1 rfl) ?_
  refine gfX1_0 S iX1 hK hP hB (hM 0 (by decide)) k1 dX1_pointsFor_9 ?_
  refine gfX4_6 S iX4 hK hP hB (hM 1 (by decide)) k2 dX1_pointsFor_12 ?_
  refine lv_aload_n S.1 S.2.1 dX1_pointsFor_15 rfl (lv_at hl 1 rfl) ?_
  refine gfX1_0 S iX1 hK hP hB (hM 0 (by decide)) k1 dX1_pointsFor_16 ?_
  refine lv_lload_n S.1 S.2.1 dX1_pointsFor_19 rfl (lv_at hl 2 rfl) ?_
  refine lv_aload_n S.1 S.2.1 dX1_pointsFor_20 rfl (lv_at hl 1 rfl) ?_
  refine gfX1_4 S iX1 hK hP hB (hM 0 (by decide)) k3 dX1_pointsFor_21 ?_
  refine lv_iload_n S.1 S.2.1 dX1_pointsFor_24 rfl (lv_at hl 3 rfl) ?_
  obtain ⟨h_4, hf⟩ := hf
  refine R_lald S.1 S.2.1 hK hP (hM 10 (by decide)) (LAg10 E hB) h_4 dX1_pointsFor_25 ?_
  refine R_cVi (As := [.long x1, .long (J_2 b 10 x3.toNatClampNeg)]) (rest := [.int (I_1 b 1 6), .int v_3]) S (c_X4_rhymeOf (hB := hB) (hM := hM)  hf) gX1_pointsFor_X4_rhymeOf rfl yk_X4_rhymeOf ⟨⟨Nat.le_of_ble_eq_true rfl, Nat.le_of_ble_eq_true rfl⟩, rfl, rfl⟩ hK hP hD hS hX hA (hM 1 (by decide)) (cF_g E hB _ _ 1) rfl rfl hl.1 rfl (Nat.le_of_ble_eq_true rfl) ⟨Nat.zero_le _, Nat.zero_le _⟩ dX1_pointsFor_26 (fun v_7 I_5 J_6 H locs hf hP hD hS => ?_)
  refine lv_imul S.1 S.2.1 dX1_pointsFor_29 ?_
  refine lv_iadd S.1 S.2.1 dX1_pointsFor_30 ?_
  refine lv_topi (fun x5_8 ex5_8 => ?_)
  have hf := hf x5_8 ex5_8
  refine lv_istore (lv' := [(5, .int x5_8), (4, .int v_3), (0, .ref (eA E b 0)), (1, .long x1), (3, .int x3)]) S.1 S.2.1 dX1_pointsFor_31 hl (by decide) rfl (fun ls hl => ?_)
  refine lv_iload S.1 S.2.1 dX1_pointsFor_33 (lv_at hl 1 rfl) ?_
  refine lv_aload_n S.1 S.2.1 dX1_pointsFor_35 rfl (lv_at hl 2 rfl) ?_
  refine lv_iload_n S.1 S.2.1 dX1_pointsFor_36 rfl (lv_at hl 4 rfl) ?_
  refine R_cVi (As := [.int x3]) (rest := [.int v_3]) S (c_X1_freeTiles (hB := hB) (hM := hM)  hf) gX1_pointsFor_X1_freeTiles rfl yk_X1_freeTiles ⟨⟨Nat.le_of_ble_eq_true rfl, Nat.le_of_ble_eq_true rfl⟩, rfl, rfl⟩ hK hP hD hS hX hA (hM 0 (by decide)) (cF_g E hB _ _ 0) rfl rfl hl.1 rfl (Nat.le_of_ble_eq_true rfl) ⟨Nat.zero_le _, Nat.zero_le _⟩ dX1_pointsFor_37 (fun v_11 I_9 J_10 H locs hf hP hD hS => ?_)
  refine lv_icmp_ne (tgt := 64) S.1 S.2.1 dX1_pointsFor_40 (by decide) (fun h_12 => ?_) (fun h_12 => ?_)
  · have hf := hf.2 h_12
    refine lv_iload S.1 S.2.1 dX1_pointsFor_64 (lv_at hl 0 rfl) ?_
    exact hret hf rfl hP hD hS dX1_pointsFor_66
  · have hf := hf.1 h_12
    refine lv_iload S.1 S.2.1 dX1_pointsFor_43 (lv_at hl 0 rfl) ?_
    refine lv_aload_n S.1 S.2.1 dX1_pointsFor_45 rfl (lv_at hl 2 rfl) ?_
    refine gfX1_0 S iX1 hK hP hB (hM 0 (by decide)) k1 dX1_pointsFor_46 ?_
    refine gfX4_7 S iX4 hK hP hB (hM 1 (by decide)) k4 dX1_pointsFor_49 ?_
    refine lv_aload_n S.1 S.2.1 dX1_pointsFor_52 rfl (lv_at hl 2 rfl) ?_
    refine gfX1_3 S iX1 hK hP hB (hM 0 (by decide)) k5 dX1_pointsFor_53 ?_
    refine lv_iload_n S.1 S.2.1 dX1_pointsFor_56 rfl (lv_at hl 4 rfl) ?_
    obtain ⟨h_13, hf⟩ := hf
    refine R_iald S.1 S.2.1 hK hP (hM 9 (by decide)) (IAg9 E hB) h_13 dX1_pointsFor_57 ?_
    refine lv_iconst (v := 1) S.1 S.2.1 dX1_pointsFor_58 rfl ?_
    refine lv_iadd S.1 S.2.1 dX1_pointsFor_59 ?_
    refine lv_imul S.1 S.2.1 dX1_pointsFor_60 ?_
    refine lv_iadd S.1 S.2.1 dX1_pointsFor_61 ?_
    refine lv_topi (fun x5_14 ex5_14 => ?_)
    have hf := hf x5_14 ex5_14
    refine lv_istore (lv' := [(5, .int x5_14), (4, .int v_3), (0, .ref (eA E b 0)), (1, .long x1), (3, .int x3)]) S.1 S.2.1 dX1_pointsFor_62 hl (by decide) rfl (fun ls hl => ?_)
    refine lv_iload S.1 S.2.1 dX1_pointsFor_64 (lv_at hl 0 rfl) ?_
    exact hret hf rfl hP hD hS dX1_pointsFor_66
abbrev rmX1_leader : Room := { frames := 0, cells := 0, slots := 0, locals := 0 }
theorem yk_X1_leader : yOk yX1_leader RX1 0 := by unfold yOk; decide +kernel
def f_X1_leader_B4 (b : Nat) (K38 : Int32 → MI → MJ → Prop) (rec4 : Int32 → Int32 → MI → MJ → Prop) (x1_1 : Int32) (x2_2 : Int32) (I_3 : MI) (J_4 : MJ) : Prop :=
  (((I_3 b 1 4) ≤ x2_2 → K38 x1_1 I_3 J_4) ∧ (¬ (I_3 b 1 4) ≤ x2_2 → (vp_in x2_2 4 ∧ (vp_in x1_1 4 ∧ (((I_3 b 14 x2_2.toNatClampNeg) ≤ (I_3 b 14 x1_1.toNatClampNeg) → ∀ x2_9 : Int32, x2_9 = x2_2 + (1 : Int32) → rec4 x1_1 x2_9 I_3 J_4) ∧ (¬ (I_3 b 14 x2_2.toNatClampNeg) ≤ (I_3 b 14 x1_1.toNatClampNeg) → ∀ x2_10 : Int32, x2_10 = x2_2 + (1 : Int32) → rec4 x2_2 x2_10 I_3 J_4))))))
def f_X1_leader_L4 (b : Nat) (K38 : Int32 → MI → MJ → Prop) : Nat → Int32 → Int32 → MI → MJ → Prop
  | 0, _, _, _, _ => False
  | n + 1, x1_1, x2_2, I_3, J_4 => f_X1_leader_B4 b K38 (f_X1_leader_L4 b K38 n) x1_1 x2_2 I_3 J_4
def f_X1_leader (b : Nat) (I : MI) (J : MJ) (Q : Int32 → MI → MJ → Prop) : Prop :=
  ∃ n : Nat, f_X1_leader_L4 b (fun (x1_11 : Int32) (I_12 : MI) (J_13 : MJ) => Q x1_11 I_12 J_13) n (0 : Int32) (1 : Int32) I J
set_option maxRecDepth 100000 in
set_option maxHeartbeats 4000000 in
theorem c_X1_leader {l : Launch} {E : EV} {ps : List (Nat × Nat)} {b : Nat} (hB : b < 11) (hM : ∀ r, r < 16 → (b, r) ∈ ps) {I : MI} {J : MJ} {Q : Int32 → MI → MJ → Prop} (hf : f_X1_leader b I J Q) : KI l yX1_leader wsX1_leader rmX1_leader E ps [.ref (eA E b 0)] I J Q := by
  refine K_ofI (cc := cX1_leader) (maxL := 3) (ty := .int) (by decide +kernel) rfl (Nat.le_of_ble_eq_true rfl) (fun p e s m args below meth c Qm hret S hK hX => ?_)
  have hA : ∀ q, s.heap.size ≤ q → AA E ps s.heap.size q := fun _ h => Or.inr h
  have k1 := S.2.2.2.2 (.fieldLink RX1 12 "RhymeRoofs$Game" "rules" "LRhymeRoofs$Rules;") (by decide +kernel)
  have iX1 : ∀ w ∈ wsX10, w ∈ wsX1_leader := fun _ h => List.mem_cons_of_mem _ (List.mem_append_left _ (List.mem_append_right _ h))
  have k2 := S.2.2.2.2 (.fieldLink RX1 86 "RhymeRoofs$Rules" "players" "I") (by decide +kernel)
  have iX4 : ∀ w ∈ wsX40, w ∈ wsX1_leader := fun _ h => List.mem_cons_of_mem _ (List.mem_append_right _ h)
  have k3 := S.2.2.2.2 (.fieldLink RX1 41 "RhymeRoofs$Game" "points" "[I") (by decide +kernel)
  intro H locs ls hP hD hS hl
  unfold f_X1_leader at hf
  refine lv_iconst (v := 0) S.1 S.2.1 dX1_leader_0 rfl ?_
  refine lv_istore_n (lv' := [(1, .int (0 : Int32)), (0, .ref (eA E b 0))]) S.1 S.2.1 dX1_leader_1 rfl hl (by decide) rfl (fun ls hl => ?_)
  refine lv_iconst (v := 1) S.1 S.2.1 dX1_leader_2 rfl ?_
  refine lv_istore_n (lv' := [(2, .int (1 : Int32)), (1, .int (0 : Int32)), (0, .ref (eA E b 0))]) S.1 S.2.1 dX1_leader_3 rfl hl (by decide) rfl (fun ls hl => ?_)
  obtain ⟨n_14, hf⟩ := hf
  have L4 : ∀ (K38 : Int32 → MI → MJ → Prop), (∀ (x1_11 : Int32) (I_12 : MI) (J_13 : MJ), K38 x1_11 I_12 J_13 → Wj p l e (rmX1_leader) s m args below meth c Qm E ps 3 I_12 J_13 38 [(1, .int x1_11)] []) → ∀ (n : Nat) (x1_1 : Int32) (x2_2 : Int32) (I_3 : MI) (J_4 : MJ), f_X1_leader_L4 b K38 n x1_1 x2_2 I_3 J_4 → Wj p l e (rmX1_leader) s m args below meth c Qm E ps 3 I_3 J_4 4 [(0, .ref (eA E b 0)), (1, .int x1_1), (2, .int x2_2)] [] := by
    intro K38 kx38 n
    induction n with
    | zero => intro x1_1 x2_2 I_3 J_4 hf; exact hf.elim
    | succ n ih4 =>
      intro x1_1 x2_2 I_3 J_4 hf
      have hf : f_X1_leader_B4 b K38 (f_X1_leader_L4 b K38 n) x1_1 x2_2 I_3 J_4 := hf
      intro H locs ls hP hD hS hl
      unfold f_X1_leader_B4 at hf
      refine lv_iload_n S.1 S.2.1 dX1_leader_4 rfl (lv_at hl 2 rfl) ?_
      refine lv_aload_n S.1 S.2.1 dX1_leader_5 rfl (lv_at hl 0 rfl) ?_
      refine gfX1_0 S iX1 hK hP hB (hM 0 (by decide)) k1 dX1_leader_6 ?_
      refine gfX4_4 S iX4 hK hP hB (hM 1 (by decide)) k2 dX1_leader_9 ?_
      refine lv_icmp_ge (tgt := 38) S.1 S.2.1 dX1_leader_12 (by decide) (fun h_5 => ?_) (fun h_5 => ?_)
      · have hf := hf.1 h_5
        exact kx38 _ _ _ hf _ _ _ hP hD hS (lv_sub hl [1] rfl)
      · have hf := hf.2 h_5
        refine lv_aload_n S.1 S.2.1 dX1_leader_15 rfl (lv_at hl 0 rfl) ?_
        refine gfX1_8 S iX1 hK hP hB (hM 0 (by decide)) k3 dX1_leader_16 ?_
        refine lv_iload_n S.1 S.2.1 dX1_leader_19 rfl (lv_at hl 2 rfl) ?_
        obtain ⟨h_6, hf⟩ := hf
        refine R_iald S.1 S.2.1 hK hP (hM 14 (by decide)) (IAg14 E hB) h_6 dX1_leader_20 ?_
        refine lv_aload_n S.1 S.2.1 dX1_leader_21 rfl (lv_at hl 0 rfl) ?_
        refine gfX1_8 S iX1 hK hP hB (hM 0 (by decide)) k3 dX1_leader_22 ?_
        refine lv_iload_n S.1 S.2.1 dX1_leader_25 rfl (lv_at hl 1 rfl) ?_
        obtain ⟨h_7, hf⟩ := hf
        refine R_iald S.1 S.2.1 hK hP (hM 14 (by decide)) (IAg14 E hB) h_7 dX1_leader_26 ?_
        refine lv_icmp_le (tgt := 32) S.1 S.2.1 dX1_leader_27 (by decide) (fun h_8 => ?_) (fun h_8 => ?_)
        · have hf := hf.1 h_8
          refine nm_o hf (fun x2_9 ex2_9 hf => ?_)
          refine lv_iinc (v := x2_9) (lv' := [(2, .int x2_9), (0, .ref (eA E b 0)), (1, .int x1_1)]) S.1 S.2.1 dX1_leader_32 hl (k := 2) rfl (by rw [ex2_9]; rfl) (by decide) rfl (fun ls hl => ?_)
          refine lv_goto (tgt := 4) S.1 S.2.1 dX1_leader_35 (by decide) ?_
          exact ih4 _ _ _ _ hf _ _ _ hP hD hS (lv_sub hl [1, 2, 0] rfl)
        · have hf := hf.2 h_8
          refine lv_iload_n S.1 S.2.1 dX1_leader_30 rfl (lv_at hl 2 rfl) ?_
          refine lv_istore_n (lv' := [(1, .int x2_2), (0, .ref (eA E b 0)), (2, .int x2_2)]) S.1 S.2.1 dX1_leader_31 rfl hl (by decide) rfl (fun ls hl => ?_)
          refine nm_o hf (fun x2_10 ex2_10 hf => ?_)
          refine lv_iinc (v := x2_10) (lv' := [(2, .int x2_10), (1, .int x2_2), (0, .ref (eA E b 0))]) S.1 S.2.1 dX1_leader_32 hl (k := 2) rfl (by rw [ex2_10]; rfl) (by decide) rfl (fun ls hl => ?_)
          refine lv_goto (tgt := 4) S.1 S.2.1 dX1_leader_35 (by decide) ?_
          exact ih4 _ _ _ _ hf _ _ _ hP hD hS (lv_sub hl [2, 1, 0] rfl)
  refine L4 _ (fun x1_11 I_12 J_13 hf H locs ls hP hD hS hl => ?_)  n_14 _ _ _ _ hf _ _ _ hP hD hS (lv_sub hl [2, 1, 0] rfl)
  refine lv_iload_n S.1 S.2.1 dX1_leader_38 rfl (lv_at hl 0 rfl) ?_
  exact hret hf rfl hP hD hS dX1_leader_39
abbrev rmX1_putLetters : Room := { frames := 2, cells := 0, slots := 0, locals := 47 }
theorem yk_X1_putLetters : yOk yX1_putLetters RX1 2 := by unfold yOk; decide +kernel
def f_X1_putLetters_B9 (b : Nat) (x1_4 : Int64) (x3_5 : Int32) (x4_6 : Int32) (K65 : MI → MJ → Prop) (rec9 : Int32 → MI → MJ → Prop) (x5_7 : Int32) (I_8 : MI) (J_9 : MJ) : Prop :=
  ((x4_6 ≤ x5_7 → K65 I_8 J_9) ∧ (¬ x4_6 ≤ x5_7 → (vp_in x3_5 6 ∧ (((40 : Int32) ≤ (I_8 b 8 x3_5.toNatClampNeg) → K65 I_8 J_9) ∧ (¬ (40 : Int32) ≤ (I_8 b 8 x3_5.toNatClampNeg) → (vp_in x3_5 6 ∧ f_X6_letterAt x1_4 x5_7 I_8 J_9 (fun (v_16 : Int32) (I_14 : MI) (J_15 : MJ) => (vp_in ((x3_5 * (40 : Int32)) + (I_8 b 8 x3_5.toNatClampNeg)) 240 ∧ ∀ I_18 : MI, I_18 = sI I_14 b 7 ((x3_5 * (40 : Int32)) + (I_8 b 8 x3_5.toNatClampNeg)).toNatClampNeg v_16 → (vp_in x3_5 6 ∧ (vp_in x3_5 6 ∧ ∀ I_21 : MI, I_21 = sI I_18 b 8 x3_5.toNatClampNeg ((I_18 b 8 x3_5.toNatClampNeg) + (1 : Int32)) → ∀ x5_22 : Int32, x5_22 = x5_7 + (1 : Int32) → rec9 x5_22 I_21 J_15))))))))))
def f_X1_putLetters_L9 (b : Nat) (x1_4 : Int64) (x3_5 : Int32) (x4_6 : Int32) (K65 : MI → MJ → Prop) : Nat → Int32 → MI → MJ → Prop
  | 0, _, _, _ => False
  | n + 1, x5_7, I_8, J_9 => f_X1_putLetters_B9 b x1_4 x3_5 x4_6 K65 (f_X1_putLetters_L9 b x1_4 x3_5 x4_6 K65 n) x5_7 I_8 J_9
def f_X1_putLetters (b : Nat) (x1 : Int64) (x3 : Int32) (I : MI) (J : MJ) (Q : MI → MJ → Prop) : Prop :=
  f_X6_length x1 I J (fun (v_3 : Int32) (I_1 : MI) (J_2 : MJ) => ∃ n : Nat, f_X1_putLetters_L9 b x1 x3 v_3 (fun (I_23 : MI) (J_24 : MJ) => Q I_23 J_24) n (0 : Int32) I_1 J_2)
set_option maxRecDepth 100000 in
set_option maxHeartbeats 4000000 in
theorem c_X1_putLetters {l : Launch} {E : EV} {ps : List (Nat × Nat)} {b : Nat} (hB : b < 11) (hM : ∀ r, r < 16 → (b, r) ∈ ps) {x1 : Int64} {x3 : Int32} {I : MI} {J : MJ} {Q : MI → MJ → Prop} (hf : f_X1_putLetters b x1 x3 I J Q) : KV l yX1_putLetters wsX1_putLetters rmX1_putLetters E ps [.ref (eA E b 0), .long x1, .int x3] I J Q := by
  refine K_ofV (cc := cX1_putLetters) (maxL := 6) (by decide +kernel) rfl (Nat.le_of_ble_eq_true rfl) (fun p e s m args below meth c Qm hret S hK hX => ?_)
  have hA : ∀ q, s.heap.size ≤ q → AA E ps s.heap.size q := fun _ h => Or.inr h
  have k1 := S.2.2.2.2 (.fieldLink RX1 22 "RhymeRoofs$Game" "lettersOn" "[I") (by decide +kernel)
  have iX1 : ∀ w ∈ wsX10, w ∈ wsX1_putLetters := fun _ h => List.mem_cons_of_mem _ (List.mem_append_right _ h)
  have k2 := S.2.2.2.2 (.fieldLink RX1 18 "RhymeRoofs$Game" "letters" "[I") (by decide +kernel)
  intro H locs ls hP hD hS hl
  unfold f_X1_putLetters at hf
  refine lv_lload_n S.1 S.2.1 dX1_putLetters_0 rfl (lv_at hl 1 rfl) ?_
  refine R_cSi (As := [.long x1]) (rest := []) S (c_X6_length   hf) gX1_putLetters_X6_length rfl yk_X6_length ⟨⟨Nat.le_of_ble_eq_true rfl, Nat.le_of_ble_eq_true rfl⟩, rfl, rfl⟩ hK hP hD hS hX hA rfl hl.1 rfl (Nat.le_of_ble_eq_true rfl) ⟨Nat.zero_le _, Nat.zero_le _⟩ dX1_putLetters_1 (fun v_3 I_1 J_2 H locs hf hP hD hS => ?_)
  refine lv_istore (lv' := [(4, .int v_3), (0, .ref (eA E b 0)), (1, .long x1), (3, .int x3)]) S.1 S.2.1 dX1_putLetters_4 hl (by decide) rfl (fun ls hl => ?_)
  refine lv_iconst (v := 0) S.1 S.2.1 dX1_putLetters_6 rfl ?_
  refine lv_istore (lv' := [(5, .int (0 : Int32)), (4, .int v_3), (0, .ref (eA E b 0)), (1, .long x1), (3, .int x3)]) S.1 S.2.1 dX1_putLetters_7 hl (by decide) rfl (fun ls hl => ?_)
  obtain ⟨n_25, hf⟩ := hf
  have L9 : ∀ (x1_4 : Int64), ∀ (x3_5 : Int32), ∀ (x4_6 : Int32), ∀ (K65 : MI → MJ → Prop), (∀ (I_23 : MI) (J_24 : MJ), K65 I_23 J_24 → Wj p l e (rmX1_putLetters) s m args below meth c Qm E ps 6 I_23 J_24 65 [] []) → ∀ (n : Nat) (x5_7 : Int32) (I_8 : MI) (J_9 : MJ), f_X1_putLetters_L9 b x1_4 x3_5 x4_6 K65 n x5_7 I_8 J_9 → Wj p l e (rmX1_putLetters) s m args below meth c Qm E ps 6 I_8 J_9 9 [(0, .ref (eA E b 0)), (1, .long x1_4), (3, .int x3_5), (4, .int x4_6), (5, .int x5_7)] [] := by
    intro x1_4 x3_5 x4_6 K65 kx65 n
    induction n with
    | zero => intro x5_7 I_8 J_9 hf; exact hf.elim
    | succ n ih9 =>
      intro x5_7 I_8 J_9 hf
      have hf : f_X1_putLetters_B9 b x1_4 x3_5 x4_6 K65 (f_X1_putLetters_L9 b x1_4 x3_5 x4_6 K65 n) x5_7 I_8 J_9 := hf
      intro H locs ls hP hD hS hl
      unfold f_X1_putLetters_B9 at hf
      refine lv_iload S.1 S.2.1 dX1_putLetters_9 (lv_at hl 4 rfl) ?_
      refine lv_iload S.1 S.2.1 dX1_putLetters_11 (lv_at hl 3 rfl) ?_
      refine lv_icmp_ge (tgt := 65) S.1 S.2.1 dX1_putLetters_13 (by decide) (fun h_10 => ?_) (fun h_10 => ?_)
      · have hf := hf.1 h_10
        exact kx65 _ _ hf _ _ _ hP hD hS (lv_sub hl [] rfl)
      · have hf := hf.2 h_10
        refine lv_aload_n S.1 S.2.1 dX1_putLetters_16 rfl (lv_at hl 0 rfl) ?_
        refine gfX1_2 S iX1 hK hP hB (hM 0 (by decide)) k1 dX1_putLetters_17 ?_
        refine lv_iload_n S.1 S.2.1 dX1_putLetters_20 rfl (lv_at hl 2 rfl) ?_
        obtain ⟨h_11, hf⟩ := hf
        refine R_iald S.1 S.2.1 hK hP (hM 8 (by decide)) (IAg8 E hB) h_11 dX1_putLetters_21 ?_
        refine lv_bipush (v := 40) S.1 S.2.1 dX1_putLetters_22 rfl ?_
        refine lv_icmp_ge (tgt := 65) S.1 S.2.1 dX1_putLetters_24 (by decide) (fun h_12 => ?_) (fun h_12 => ?_)
        · have hf := hf.1 h_12
          exact kx65 _ _ hf _ _ _ hP hD hS (lv_sub hl [] rfl)
        · have hf := hf.2 h_12
          refine lv_aload_n S.1 S.2.1 dX1_putLetters_27 rfl (lv_at hl 0 rfl) ?_
          refine gfX1_1 S iX1 hK hP hB (hM 0 (by decide)) k2 dX1_putLetters_28 ?_
          refine lv_iload_n S.1 S.2.1 dX1_putLetters_31 rfl (lv_at hl 2 rfl) ?_
          refine lv_bipush (v := 40) S.1 S.2.1 dX1_putLetters_32 rfl ?_
          refine lv_imul S.1 S.2.1 dX1_putLetters_34 ?_
          refine lv_aload_n S.1 S.2.1 dX1_putLetters_35 rfl (lv_at hl 0 rfl) ?_
          refine gfX1_2 S iX1 hK hP hB (hM 0 (by decide)) k1 dX1_putLetters_36 ?_
          refine lv_iload_n S.1 S.2.1 dX1_putLetters_39 rfl (lv_at hl 2 rfl) ?_
          obtain ⟨h_13, hf⟩ := hf
          refine R_iald S.1 S.2.1 hK hP (hM 8 (by decide)) (IAg8 E hB) h_13 dX1_putLetters_40 ?_
          refine lv_iadd S.1 S.2.1 dX1_putLetters_41 ?_
          refine lv_lload_n S.1 S.2.1 dX1_putLetters_42 rfl (lv_at hl 1 rfl) ?_
          refine lv_iload S.1 S.2.1 dX1_putLetters_43 (lv_at hl 4 rfl) ?_
          refine R_cSi (As := [.long x1_4, .int x5_7]) (rest := [.int ((x3_5 * (40 : Int32)) + (I_8 b 8 x3_5.toNatClampNeg)), .ref (eA E b 7)]) S (c_X6_letterAt   hf) gX1_putLetters_X6_letterAt rfl yk_X6_letterAt ⟨⟨Nat.le_of_ble_eq_true rfl, Nat.le_of_ble_eq_true rfl⟩, rfl, rfl⟩ hK hP hD hS hX hA rfl hl.1 rfl (Nat.le_of_ble_eq_true rfl) ⟨Nat.zero_le _, Nat.zero_le _⟩ dX1_putLetters_45 (fun v_16 I_14 J_15 H locs hf hP hD hS => ?_)
          obtain ⟨h_17, hf⟩ := hf
          refine nm_o hf (fun I_18 eI_18 hf => ?_)
          refine R_iast S.1 S.2.1 hK hP hD hS (hM 7 (by decide)) (IAg7 E hB) h_17 dX1_putLetters_48 eI_18 (fun H locs hP hD hS => ?_)
          refine lv_aload_n S.1 S.2.1 dX1_putLetters_49 rfl (lv_at hl 0 rfl) ?_
          refine gfX1_2 S iX1 hK hP hB (hM 0 (by decide)) k1 dX1_putLetters_50 ?_
          refine lv_iload_n S.1 S.2.1 dX1_putLetters_53 rfl (lv_at hl 2 rfl) ?_
          refine lv_dup2_11 S.1 S.2.1 dX1_putLetters_54 rfl rfl ?_
          obtain ⟨h_19, hf⟩ := hf
          refine R_iald S.1 S.2.1 hK hP (hM 8 (by decide)) (IAg8 E hB) h_19 dX1_putLetters_55 ?_
          refine lv_iconst (v := 1) S.1 S.2.1 dX1_putLetters_56 rfl ?_
          refine lv_iadd S.1 S.2.1 dX1_putLetters_57 ?_
          obtain ⟨h_20, hf⟩ := hf
          refine nm_o hf (fun I_21 eI_21 hf => ?_)
          refine R_iast S.1 S.2.1 hK hP hD hS (hM 8 (by decide)) (IAg8 E hB) h_20 dX1_putLetters_58 eI_21 (fun H locs hP hD hS => ?_)
          refine nm_o hf (fun x5_22 ex5_22 hf => ?_)
          refine lv_iinc (v := x5_22) (lv' := [(5, .int x5_22), (0, .ref (eA E b 0)), (1, .long x1_4), (3, .int x3_5), (4, .int x4_6)]) S.1 S.2.1 dX1_putLetters_59 hl (k := 4) rfl (by rw [ex5_22]; rfl) (by decide) rfl (fun ls hl => ?_)
          refine lv_goto (tgt := 9) S.1 S.2.1 dX1_putLetters_62 (by decide) ?_
          exact ih9 _ _ _ hf _ _ _ hP hD hS (lv_sub hl [1, 2, 3, 4, 0] rfl)
  refine L9 _ _ _ _ (fun I_23 J_24 hf H locs ls hP hD hS hl => ?_)  n_25 _ _ _ hf _ _ _ hP hD hS (lv_sub hl [2, 3, 4, 1, 0] rfl)
  exact hret hf hP hD hS dX1_putLetters_65
abbrev rmX1_addWord : Room := { frames := 0, cells := 0, slots := 0, locals := 0 }
theorem yk_X1_addWord : yOk yX1_addWord RX1 2 := by unfold yOk; decide +kernel
def f_X1_addWord (b : Nat) (x1 : Int32) (x2 : Int64) (I : MI) (J : MJ) (Q : MI → MJ → Prop) : Prop :=
  (vp_in x1 4 ∧ (((8 : Int32) ≤ (I b 13 x1.toNatClampNeg) → Q I J) ∧ (¬ (8 : Int32) ≤ (I b 13 x1.toNatClampNeg) → (vp_in x1 4 ∧ (vp_in ((x1 * (8 : Int32)) + (I b 13 x1.toNatClampNeg)) 32 ∧ ∀ J_5 : MJ, J_5 = sJ J b 12 ((x1 * (8 : Int32)) + (I b 13 x1.toNatClampNeg)).toNatClampNeg x2 → (vp_in x1 4 ∧ (vp_in x1 4 ∧ ∀ I_8 : MI, I_8 = sI I b 13 x1.toNatClampNeg ((I b 13 x1.toNatClampNeg) + (1 : Int32)) → Q I_8 J_5)))))))
set_option maxRecDepth 100000 in
set_option maxHeartbeats 4000000 in
theorem c_X1_addWord {l : Launch} {E : EV} {ps : List (Nat × Nat)} {b : Nat} (hB : b < 11) (hM : ∀ r, r < 16 → (b, r) ∈ ps) {x1 : Int32} {x2 : Int64} {I : MI} {J : MJ} {Q : MI → MJ → Prop} (hf : f_X1_addWord b x1 x2 I J Q) : KV l yX1_addWord wsX1_addWord rmX1_addWord E ps [.ref (eA E b 0), .int x1, .long x2] I J Q := by
  refine K_ofV (cc := cX1_addWord) (maxL := 4) (by decide +kernel) rfl (Nat.le_of_ble_eq_true rfl) (fun p e s m args below meth c Qm hret S hK hX => ?_)
  have hA : ∀ q, s.heap.size ≤ q → AA E ps s.heap.size q := fun _ h => Or.inr h
  have k1 := S.2.2.2.2 (.fieldLink RX1 38 "RhymeRoofs$Game" "handSize" "[I") (by decide +kernel)
  have iX1 : ∀ w ∈ wsX10, w ∈ wsX1_addWord := fun _ h => List.mem_cons_of_mem _ (List.mem_append_right _ h)
  have k2 := S.2.2.2.2 (.fieldLink RX1 35 "RhymeRoofs$Game" "hands" "[J") (by decide +kernel)
  intro H locs ls hP hD hS hl
  unfold f_X1_addWord at hf
  refine lv_aload_n S.1 S.2.1 dX1_addWord_0 rfl (lv_at hl 0 rfl) ?_
  refine gfX1_7 S iX1 hK hP hB (hM 0 (by decide)) k1 dX1_addWord_1 ?_
  refine lv_iload_n S.1 S.2.1 dX1_addWord_4 rfl (lv_at hl 1 rfl) ?_
  obtain ⟨h_1, hf⟩ := hf
  refine R_iald S.1 S.2.1 hK hP (hM 13 (by decide)) (IAg13 E hB) h_1 dX1_addWord_5 ?_
  refine lv_bipush (v := 8) S.1 S.2.1 dX1_addWord_6 rfl ?_
  refine lv_icmp_ge (tgt := 38) S.1 S.2.1 dX1_addWord_8 (by decide) (fun h_2 => ?_) (fun h_2 => ?_)
  · have hf := hf.1 h_2
    exact hret hf hP hD hS dX1_addWord_38
  · have hf := hf.2 h_2
    refine lv_aload_n S.1 S.2.1 dX1_addWord_11 rfl (lv_at hl 0 rfl) ?_
    refine gfX1_6 S iX1 hK hP hB (hM 0 (by decide)) k2 dX1_addWord_12 ?_
    refine lv_iload_n S.1 S.2.1 dX1_addWord_15 rfl (lv_at hl 1 rfl) ?_
    refine lv_bipush (v := 8) S.1 S.2.1 dX1_addWord_16 rfl ?_
    refine lv_imul S.1 S.2.1 dX1_addWord_18 ?_
    refine lv_aload_n S.1 S.2.1 dX1_addWord_19 rfl (lv_at hl 0 rfl) ?_
    refine gfX1_7 S iX1 hK hP hB (hM 0 (by decide)) k1 dX1_addWord_20 ?_
    refine lv_iload_n S.1 S.2.1 dX1_addWord_23 rfl (lv_at hl 1 rfl) ?_
    obtain ⟨h_3, hf⟩ := hf
    refine R_iald S.1 S.2.1 hK hP (hM 13 (by decide)) (IAg13 E hB) h_3 dX1_addWord_24 ?_
    refine lv_iadd S.1 S.2.1 dX1_addWord_25 ?_
    refine lv_lload_n S.1 S.2.1 dX1_addWord_26 rfl (lv_at hl 2 rfl) ?_
    obtain ⟨h_4, hf⟩ := hf
    refine nm_o hf (fun J_5 eJ_5 hf => ?_)
    refine R_last S.1 S.2.1 hK hP hD hS (hM 12 (by decide)) (LAg12 E hB) h_4 dX1_addWord_27 eJ_5 (fun H locs hP hD hS => ?_)
    refine lv_aload_n S.1 S.2.1 dX1_addWord_28 rfl (lv_at hl 0 rfl) ?_
    refine gfX1_7 S iX1 hK hP hB (hM 0 (by decide)) k1 dX1_addWord_29 ?_
    refine lv_iload_n S.1 S.2.1 dX1_addWord_32 rfl (lv_at hl 1 rfl) ?_
    refine lv_dup2_11 S.1 S.2.1 dX1_addWord_33 rfl rfl ?_
    obtain ⟨h_6, hf⟩ := hf
    refine R_iald S.1 S.2.1 hK hP (hM 13 (by decide)) (IAg13 E hB) h_6 dX1_addWord_34 ?_
    refine lv_iconst (v := 1) S.1 S.2.1 dX1_addWord_35 rfl ?_
    refine lv_iadd S.1 S.2.1 dX1_addWord_36 ?_
    obtain ⟨h_7, hf⟩ := hf
    refine nm_o hf (fun I_8 eI_8 hf => ?_)
    refine R_iast S.1 S.2.1 hK hP hD hS (hM 13 (by decide)) (IAg13 E hB) h_7 dX1_addWord_37 eI_8 (fun H locs hP hD hS => ?_)
    exact hret hf hP hD hS dX1_addWord_38
abbrev rmX1_removeWord : Room := { frames := 0, cells := 0, slots := 0, locals := 0 }
theorem yk_X1_removeWord : yOk yX1_removeWord RX1 2 := by unfold yOk; decide +kernel
def f_X1_removeWord_B18 (b : Nat) (x1_5 : Int32) (x3_6 : Int32) (K55 : MI → MJ → Prop) (rec18 : Int32 → MI → MJ → Prop) (x4_7 : Int32) (I_8 : MI) (J_9 : MJ) : Prop :=
  (vp_in x1_5 4 ∧ (((I_8 b 13 x1_5.toNatClampNeg) ≤ x4_7 → K55 I_8 J_9) ∧ (¬ (I_8 b 13 x1_5.toNatClampNeg) ≤ x4_7 → (vp_in ((x3_6 + x4_7) + (1 : Int32)) 32 ∧ (vp_in (x3_6 + x4_7) 32 ∧ ∀ J_14 : MJ, J_14 = sJ J_9 b 12 (x3_6 + x4_7).toNatClampNeg (J_9 b 12 ((x3_6 + x4_7) + (1 : Int32)).toNatClampNeg) → ∀ x4_15 : Int32, x4_15 = x4_7 + (1 : Int32) → rec18 x4_15 I_8 J_14)))))
def f_X1_removeWord_L18 (b : Nat) (x1_5 : Int32) (x3_6 : Int32) (K55 : MI → MJ → Prop) : Nat → Int32 → MI → MJ → Prop
  | 0, _, _, _ => False
  | n + 1, x4_7, I_8, J_9 => f_X1_removeWord_B18 b x1_5 x3_6 K55 (f_X1_removeWord_L18 b x1_5 x3_6 K55 n) x4_7 I_8 J_9
def f_X1_removeWord (b : Nat) (x1 : Int32) (x2 : Int32) (I : MI) (J : MJ) (Q : MI → MJ → Prop) : Prop :=
  ∀ x3_1 : Int32, x3_1 = (x1 * (8 : Int32)) → (vp_in x1 4 ∧ (vp_in x1 4 ∧ ∀ I_4 : MI, I_4 = sI I b 13 x1.toNatClampNeg ((I b 13 x1.toNatClampNeg) - (1 : Int32)) → ∃ n : Nat, f_X1_removeWord_L18 b x1 x3_1 (fun (I_16 : MI) (J_17 : MJ) => Q I_16 J_17) n x2 I_4 J))
set_option maxRecDepth 100000 in
set_option maxHeartbeats 4000000 in
theorem c_X1_removeWord {l : Launch} {E : EV} {ps : List (Nat × Nat)} {b : Nat} (hB : b < 11) (hM : ∀ r, r < 16 → (b, r) ∈ ps) {x1 : Int32} {x2 : Int32} {I : MI} {J : MJ} {Q : MI → MJ → Prop} (hf : f_X1_removeWord b x1 x2 I J Q) : KV l yX1_removeWord wsX1_removeWord rmX1_removeWord E ps [.ref (eA E b 0), .int x1, .int x2] I J Q := by
  refine K_ofV (cc := cX1_removeWord) (maxL := 5) (by decide +kernel) rfl (Nat.le_of_ble_eq_true rfl) (fun p e s m args below meth c Qm hret S hK hX => ?_)
  have hA : ∀ q, s.heap.size ≤ q → AA E ps s.heap.size q := fun _ h => Or.inr h
  have k1 := S.2.2.2.2 (.fieldLink RX1 38 "RhymeRoofs$Game" "handSize" "[I") (by decide +kernel)
  have iX1 : ∀ w ∈ wsX10, w ∈ wsX1_removeWord := fun _ h => List.mem_cons_of_mem _ (List.mem_append_right _ h)
  have k2 := S.2.2.2.2 (.fieldLink RX1 35 "RhymeRoofs$Game" "hands" "[J") (by decide +kernel)
  intro H locs ls hP hD hS hl
  unfold f_X1_removeWord at hf
  refine lv_iload_n S.1 S.2.1 dX1_removeWord_0 rfl (lv_at hl 1 rfl) ?_
  refine lv_bipush (v := 8) S.1 S.2.1 dX1_removeWord_1 rfl ?_
  refine lv_imul S.1 S.2.1 dX1_removeWord_3 ?_
  refine lv_topi (fun x3_1 ex3_1 => ?_)
  have hf := hf x3_1 ex3_1
  refine lv_istore_n (lv' := [(3, .int x3_1), (0, .ref (eA E b 0)), (1, .int x1), (2, .int x2)]) S.1 S.2.1 dX1_removeWord_4 rfl hl (by decide) rfl (fun ls hl => ?_)
  refine lv_aload_n S.1 S.2.1 dX1_removeWord_5 rfl (lv_at hl 1 rfl) ?_
  refine gfX1_7 S iX1 hK hP hB (hM 0 (by decide)) k1 dX1_removeWord_6 ?_
  refine lv_iload_n S.1 S.2.1 dX1_removeWord_9 rfl (lv_at hl 2 rfl) ?_
  refine lv_dup2_11 S.1 S.2.1 dX1_removeWord_10 rfl rfl ?_
  obtain ⟨h_2, hf⟩ := hf
  refine R_iald S.1 S.2.1 hK hP (hM 13 (by decide)) (IAg13 E hB) h_2 dX1_removeWord_11 ?_
  refine lv_iconst (v := 1) S.1 S.2.1 dX1_removeWord_12 rfl ?_
  refine lv_isub S.1 S.2.1 dX1_removeWord_13 ?_
  obtain ⟨h_3, hf⟩ := hf
  refine nm_o hf (fun I_4 eI_4 hf => ?_)
  refine R_iast S.1 S.2.1 hK hP hD hS (hM 13 (by decide)) (IAg13 E hB) h_3 dX1_removeWord_14 eI_4 (fun H locs hP hD hS => ?_)
  refine lv_iload_n S.1 S.2.1 dX1_removeWord_15 rfl (lv_at hl 3 rfl) ?_
  refine lv_istore (lv' := [(4, .int x2), (3, .int x3_1), (0, .ref (eA E b 0)), (1, .int x1), (2, .int x2)]) S.1 S.2.1 dX1_removeWord_16 hl (by decide) rfl (fun ls hl => ?_)
  obtain ⟨n_18, hf⟩ := hf
  have L18 : ∀ (x1_5 : Int32), ∀ (x3_6 : Int32), ∀ (K55 : MI → MJ → Prop), (∀ (I_16 : MI) (J_17 : MJ), K55 I_16 J_17 → Wj p l e (rmX1_removeWord) s m args below meth c Qm E ps 5 I_16 J_17 55 [] []) → ∀ (n : Nat) (x4_7 : Int32) (I_8 : MI) (J_9 : MJ), f_X1_removeWord_L18 b x1_5 x3_6 K55 n x4_7 I_8 J_9 → Wj p l e (rmX1_removeWord) s m args below meth c Qm E ps 5 I_8 J_9 18 [(0, .ref (eA E b 0)), (1, .int x1_5), (3, .int x3_6), (4, .int x4_7)] [] := by
    intro x1_5 x3_6 K55 kx55 n
    induction n with
    | zero => intro x4_7 I_8 J_9 hf; exact hf.elim
    | succ n ih18 =>
      intro x4_7 I_8 J_9 hf
      have hf : f_X1_removeWord_B18 b x1_5 x3_6 K55 (f_X1_removeWord_L18 b x1_5 x3_6 K55 n) x4_7 I_8 J_9 := hf
      intro H locs ls hP hD hS hl
      unfold f_X1_removeWord_B18 at hf
      refine lv_iload S.1 S.2.1 dX1_removeWord_18 (lv_at hl 3 rfl) ?_
      refine lv_aload_n S.1 S.2.1 dX1_removeWord_20 rfl (lv_at hl 0 rfl) ?_
      refine gfX1_7 S iX1 hK hP hB (hM 0 (by decide)) k1 dX1_removeWord_21 ?_
      refine lv_iload_n S.1 S.2.1 dX1_removeWord_24 rfl (lv_at hl 1 rfl) ?_
      obtain ⟨h_10, hf⟩ := hf
      refine R_iald S.1 S.2.1 hK hP (hM 13 (by decide)) (IAg13 E hB) h_10 dX1_removeWord_25 ?_
      refine lv_icmp_ge (tgt := 55) S.1 S.2.1 dX1_removeWord_26 (by decide) (fun h_11 => ?_) (fun h_11 => ?_)
      · have hf := hf.1 h_11
        exact kx55 _ _ hf _ _ _ hP hD hS (lv_sub hl [] rfl)
      · have hf := hf.2 h_11
        refine lv_aload_n S.1 S.2.1 dX1_removeWord_29 rfl (lv_at hl 0 rfl) ?_
        refine gfX1_6 S iX1 hK hP hB (hM 0 (by decide)) k2 dX1_removeWord_30 ?_
        refine lv_iload_n S.1 S.2.1 dX1_removeWord_33 rfl (lv_at hl 2 rfl) ?_
        refine lv_iload S.1 S.2.1 dX1_removeWord_34 (lv_at hl 3 rfl) ?_
        refine lv_iadd S.1 S.2.1 dX1_removeWord_36 ?_
        refine lv_aload_n S.1 S.2.1 dX1_removeWord_37 rfl (lv_at hl 0 rfl) ?_
        refine gfX1_6 S iX1 hK hP hB (hM 0 (by decide)) k2 dX1_removeWord_38 ?_
        refine lv_iload_n S.1 S.2.1 dX1_removeWord_41 rfl (lv_at hl 2 rfl) ?_
        refine lv_iload S.1 S.2.1 dX1_removeWord_42 (lv_at hl 3 rfl) ?_
        refine lv_iadd S.1 S.2.1 dX1_removeWord_44 ?_
        refine lv_iconst (v := 1) S.1 S.2.1 dX1_removeWord_45 rfl ?_
        refine lv_iadd S.1 S.2.1 dX1_removeWord_46 ?_
        obtain ⟨h_12, hf⟩ := hf
        refine R_lald S.1 S.2.1 hK hP (hM 12 (by decide)) (LAg12 E hB) h_12 dX1_removeWord_47 ?_
        obtain ⟨h_13, hf⟩ := hf
        refine nm_o hf (fun J_14 eJ_14 hf => ?_)
        refine R_last S.1 S.2.1 hK hP hD hS (hM 12 (by decide)) (LAg12 E hB) h_13 dX1_removeWord_48 eJ_14 (fun H locs hP hD hS => ?_)
        refine nm_o hf (fun x4_15 ex4_15 hf => ?_)
        refine lv_iinc (v := x4_15) (lv' := [(4, .int x4_15), (0, .ref (eA E b 0)), (1, .int x1_5), (3, .int x3_6)]) S.1 S.2.1 dX1_removeWord_49 hl (k := 3) rfl (by rw [ex4_15]; rfl) (by decide) rfl (fun ls hl => ?_)
        refine lv_goto (tgt := 18) S.1 S.2.1 dX1_removeWord_52 (by decide) ?_
        exact ih18 _ _ _ hf _ _ _ hP hD hS (lv_sub hl [1, 2, 3, 0] rfl)
  refine L18 _ _ _ (fun I_16 J_17 hf H locs ls hP hD hS hl => ?_)  n_18 _ _ _ hf _ _ _ hP hD hS (lv_sub hl [2, 3, 1, 0] rfl)
  exact hret hf hP hD hS dX1_removeWord_55
abbrev rmX1_payOwners : Room := { frames := 1, cells := 0, slots := 0, locals := 21 }
theorem yk_X1_payOwners : yOk yX1_payOwners RX1 0 := by unfold yOk; decide +kernel
def f_X1_payOwners_B2 (b : Nat) (K59 : MI → MJ → Prop) (rec2 : Int32 → MI → MJ → Prop) (x1_1 : Int32) (I_2 : MI) (J_3 : MJ) : Prop :=
  (((I_2 b 1 3) ≤ x1_1 → K59 I_2 J_3) ∧ (¬ (I_2 b 1 3) ≤ x1_1 → (vp_in x1_1 6 ∧ (((I_2 b 11 x1_1.toNatClampNeg) = (-1 : Int32) → ∀ x1_7 : Int32, x1_7 = x1_1 + (1 : Int32) → rec2 x1_7 I_2 J_3) ∧ (¬ (I_2 b 11 x1_1.toNatClampNeg) = (-1 : Int32) → f_X1_freeTiles b x1_1 I_2 J_3 (fun (v_10 : Int32) (I_8 : MI) (J_9 : MJ) => ((v_10 ≤ (0 : Int32) → ∀ x1_12 : Int32, x1_12 = x1_1 + (1 : Int32) → rec2 x1_12 I_8 J_9) ∧ (¬ v_10 ≤ (0 : Int32) → (vp_in x1_1 6 ∧ (vp_in (I_8 b 11 x1_1.toNatClampNeg) 4 ∧ (vp_in x1_1 6 ∧ (¬ (2 : Int32) = 0 ∧ (vp_in (I_8 b 11 x1_1.toNatClampNeg) 4 ∧ ∀ I_18 : MI, I_18 = sI I_8 b 14 (I_8 b 11 x1_1.toNatClampNeg).toNatClampNeg ((I_8 b 14 (I_8 b 11 x1_1.toNatClampNeg).toNatClampNeg) + ((I_8 b 8 x1_1.toNatClampNeg) / (2 : Int32))) → ∀ x1_19 : Int32, x1_19 = x1_1 + (1 : Int32) → rec2 x1_19 I_18 J_9)))))))))))))
def f_X1_payOwners_L2 (b : Nat) (K59 : MI → MJ → Prop) : Nat → Int32 → MI → MJ → Prop
  | 0, _, _, _ => False
  | n + 1, x1_1, I_2, J_3 => f_X1_payOwners_B2 b K59 (f_X1_payOwners_L2 b K59 n) x1_1 I_2 J_3
def f_X1_payOwners (b : Nat) (I : MI) (J : MJ) (Q : MI → MJ → Prop) : Prop :=
  ∃ n : Nat, f_X1_payOwners_L2 b (fun (I_20 : MI) (J_21 : MJ) => Q I_20 J_21) n (0 : Int32) I J
set_option maxRecDepth 100000 in
set_option maxHeartbeats 4000000 in
theorem c_X1_payOwners {l : Launch} {E : EV} {ps : List (Nat × Nat)} {b : Nat} (hB : b < 11) (hM : ∀ r, r < 16 → (b, r) ∈ ps) {I : MI} {J : MJ} {Q : MI → MJ → Prop} (hf : f_X1_payOwners b I J Q) : KV l yX1_payOwners wsX1_payOwners rmX1_payOwners E ps [.ref (eA E b 0)] I J Q := by
  refine K_ofV (cc := cX1_payOwners) (maxL := 2) (by decide +kernel) rfl (Nat.le_of_ble_eq_true rfl) (fun p e s m args below meth c Qm hret S hK hX => ?_)
  have hA : ∀ q, s.heap.size ≤ q → AA E ps s.heap.size q := fun _ h => Or.inr h
  have k1 := S.2.2.2.2 (.fieldLink RX1 12 "RhymeRoofs$Game" "rules" "LRhymeRoofs$Rules;") (by decide +kernel)
  have iX1 : ∀ w ∈ wsX10, w ∈ wsX1_payOwners := fun _ h => List.mem_cons_of_mem _ (List.mem_append_left _ (List.mem_append_right _ h))
  have k2 := S.2.2.2.2 (.fieldLink RX1 83 "RhymeRoofs$Rules" "rows" "I") (by decide +kernel)
  have iX4 : ∀ w ∈ wsX40, w ∈ wsX1_payOwners := fun _ h => List.mem_cons_of_mem _ (List.mem_append_right _ h)
  have k3 := S.2.2.2.2 (.fieldLink RX1 32 "RhymeRoofs$Game" "ownerOf" "[I") (by decide +kernel)
  have k4 := S.2.2.2.2 (.fieldLink RX1 41 "RhymeRoofs$Game" "points" "[I") (by decide +kernel)
  have k5 := S.2.2.2.2 (.fieldLink RX1 22 "RhymeRoofs$Game" "lettersOn" "[I") (by decide +kernel)
  intro H locs ls hP hD hS hl
  unfold f_X1_payOwners at hf
  refine lv_iconst (v := 0) S.1 S.2.1 dX1_payOwners_0 rfl ?_
  refine lv_istore_n (lv' := [(1, .int (0 : Int32)), (0, .ref (eA E b 0))]) S.1 S.2.1 dX1_payOwners_1 rfl hl (by decide) rfl (fun ls hl => ?_)
  obtain ⟨n_22, hf⟩ := hf
  have L2 : ∀ (K59 : MI → MJ → Prop), (∀ (I_20 : MI) (J_21 : MJ), K59 I_20 J_21 → Wj p l e (rmX1_payOwners) s m args below meth c Qm E ps 2 I_20 J_21 59 [] []) → ∀ (n : Nat) (x1_1 : Int32) (I_2 : MI) (J_3 : MJ), f_X1_payOwners_L2 b K59 n x1_1 I_2 J_3 → Wj p l e (rmX1_payOwners) s m args below meth c Qm E ps 2 I_2 J_3 2 [(0, .ref (eA E b 0)), (1, .int x1_1)] [] := by
    intro K59 kx59 n
    induction n with
    | zero => intro x1_1 I_2 J_3 hf; exact hf.elim
    | succ n ih2 =>
      intro x1_1 I_2 J_3 hf
      have hf : f_X1_payOwners_B2 b K59 (f_X1_payOwners_L2 b K59 n) x1_1 I_2 J_3 := hf
      intro H locs ls hP hD hS hl
      unfold f_X1_payOwners_B2 at hf
      refine lv_iload_n S.1 S.2.1 dX1_payOwners_2 rfl (lv_at hl 1 rfl) ?_
      refine lv_aload_n S.1 S.2.1 dX1_payOwners_3 rfl (lv_at hl 0 rfl) ?_
      refine gfX1_0 S iX1 hK hP hB (hM 0 (by decide)) k1 dX1_payOwners_4 ?_
      refine gfX4_3 S iX4 hK hP hB (hM 1 (by decide)) k2 dX1_payOwners_7 ?_
      refine lv_icmp_ge (tgt := 59) S.1 S.2.1 dX1_payOwners_10 (by decide) (fun h_4 => ?_) (fun h_4 => ?_)
      · have hf := hf.1 h_4
        exact kx59 _ _ hf _ _ _ hP hD hS (lv_sub hl [] rfl)
      · have hf := hf.2 h_4
        refine lv_aload_n S.1 S.2.1 dX1_payOwners_13 rfl (lv_at hl 0 rfl) ?_
        refine gfX1_5 S iX1 hK hP hB (hM 0 (by decide)) k3 dX1_payOwners_14 ?_
        refine lv_iload_n S.1 S.2.1 dX1_payOwners_17 rfl (lv_at hl 1 rfl) ?_
        obtain ⟨h_5, hf⟩ := hf
        refine R_iald S.1 S.2.1 hK hP (hM 11 (by decide)) (IAg11 E hB) h_5 dX1_payOwners_18 ?_
        refine lv_iconst (v := (-1)) S.1 S.2.1 dX1_payOwners_19 rfl ?_
        refine lv_icmp_eq (tgt := 53) S.1 S.2.1 dX1_payOwners_20 (by decide) (fun h_6 => ?_) (fun h_6 => ?_)
        · have hf := hf.1 h_6
          refine nm_o hf (fun x1_7 ex1_7 hf => ?_)
          refine lv_iinc (v := x1_7) (lv' := [(1, .int x1_7), (0, .ref (eA E b 0))]) S.1 S.2.1 dX1_payOwners_53 hl (k := 1) rfl (by rw [ex1_7]; rfl) (by decide) rfl (fun ls hl => ?_)
          refine lv_goto (tgt := 2) S.1 S.2.1 dX1_payOwners_56 (by decide) ?_
          exact ih2 _ _ _ hf _ _ _ hP hD hS (lv_sub hl [1, 0] rfl)
        · have hf := hf.2 h_6
          refine lv_aload_n S.1 S.2.1 dX1_payOwners_23 rfl (lv_at hl 0 rfl) ?_
          refine lv_iload_n S.1 S.2.1 dX1_payOwners_24 rfl (lv_at hl 1 rfl) ?_
          refine R_cVi (As := [.int x1_1]) (rest := []) S (c_X1_freeTiles (hB := hB) (hM := hM)  hf) gX1_payOwners_X1_freeTiles rfl yk_X1_freeTiles ⟨⟨Nat.le_of_ble_eq_true rfl, Nat.le_of_ble_eq_true rfl⟩, rfl, rfl⟩ hK hP hD hS hX hA (hM 0 (by decide)) (cF_g E hB _ _ 0) rfl rfl hl.1 rfl (Nat.le_of_ble_eq_true rfl) ⟨Nat.zero_le _, Nat.zero_le _⟩ dX1_payOwners_25 (fun v_10 I_8 J_9 H locs hf hP hD hS => ?_)
          refine lv_if_le (tgt := 53) S.1 S.2.1 dX1_payOwners_28 (by decide) (fun h_11 => ?_) (fun h_11 => ?_)
          · have hf := hf.1 h_11
            refine nm_o hf (fun x1_12 ex1_12 hf => ?_)
            refine lv_iinc (v := x1_12) (lv' := [(1, .int x1_12), (0, .ref (eA E b 0))]) S.1 S.2.1 dX1_payOwners_53 hl (k := 1) rfl (by rw [ex1_12]; rfl) (by decide) rfl (fun ls hl => ?_)
            refine lv_goto (tgt := 2) S.1 S.2.1 dX1_payOwners_56 (by decide) ?_
            exact ih2 _ _ _ hf _ _ _ hP hD hS (lv_sub hl [1, 0] rfl)
          · have hf := hf.2 h_11
            refine lv_aload_n S.1 S.2.1 dX1_payOwners_31 rfl (lv_at hl 0 rfl) ?_
            refine gfX1_8 S iX1 hK hP hB (hM 0 (by decide)) k4 dX1_payOwners_32 ?_
            refine lv_aload_n S.1 S.2.1 dX1_payOwners_35 rfl (lv_at hl 0 rfl) ?_
            refine gfX1_5 S iX1 hK hP hB (hM 0 (by decide)) k3 dX1_payOwners_36 ?_
            refine lv_iload_n S.1 S.2.1 dX1_payOwners_39 rfl (lv_at hl 1 rfl) ?_
            obtain ⟨h_13, hf⟩ := hf
            refine R_iald S.1 S.2.1 hK hP (hM 11 (by decide)) (IAg11 E hB) h_13 dX1_payOwners_40 ?_
            refine lv_dup2_11 S.1 S.2.1 dX1_payOwners_41 rfl rfl ?_
            obtain ⟨h_14, hf⟩ := hf
            refine R_iald S.1 S.2.1 hK hP (hM 14 (by decide)) (IAg14 E hB) h_14 dX1_payOwners_42 ?_
            refine lv_aload_n S.1 S.2.1 dX1_payOwners_43 rfl (lv_at hl 0 rfl) ?_
            refine gfX1_2 S iX1 hK hP hB (hM 0 (by decide)) k5 dX1_payOwners_44 ?_
            refine lv_iload_n S.1 S.2.1 dX1_payOwners_47 rfl (lv_at hl 1 rfl) ?_
            obtain ⟨h_15, hf⟩ := hf
            refine R_iald S.1 S.2.1 hK hP (hM 8 (by decide)) (IAg8 E hB) h_15 dX1_payOwners_48 ?_
            refine lv_iconst (v := 2) S.1 S.2.1 dX1_payOwners_49 rfl ?_
            obtain ⟨h_16, hf⟩ := hf
            refine lv_idiv S.1 S.2.1 dX1_payOwners_50 h_16 ?_
            refine lv_iadd S.1 S.2.1 dX1_payOwners_51 ?_
            obtain ⟨h_17, hf⟩ := hf
            refine nm_o hf (fun I_18 eI_18 hf => ?_)
            refine R_iast S.1 S.2.1 hK hP hD hS (hM 14 (by decide)) (IAg14 E hB) h_17 dX1_payOwners_52 eI_18 (fun H locs hP hD hS => ?_)
            refine nm_o hf (fun x1_19 ex1_19 hf => ?_)
            refine lv_iinc (v := x1_19) (lv' := [(1, .int x1_19), (0, .ref (eA E b 0))]) S.1 S.2.1 dX1_payOwners_53 hl (k := 1) rfl (by rw [ex1_19]; rfl) (by decide) rfl (fun ls hl => ?_)
            refine lv_goto (tgt := 2) S.1 S.2.1 dX1_payOwners_56 (by decide) ?_
            exact ih2 _ _ _ hf _ _ _ hP hD hS (lv_sub hl [1, 0] rfl)
  refine L2 _ (fun I_20 J_21 hf H locs ls hP hD hS hl => ?_)  n_22 _ _ _ hf _ _ _ hP hD hS (lv_sub hl [1, 0] rfl)
  exact hret hf hP hD hS dX1_payOwners_59
