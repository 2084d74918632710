abbrev rmX1_copyFrom : Room := { frames := 3, cells := 0, slots := 0, locals := 106 }
theorem yk_X1_copyFrom : yOk yX1_copyFrom RX1 1 := by unfold yOk; decide +kernel
def f_X1_copyFrom (b : Nat) (g : Nat) (I : MI) (J : MJ) (Q : MI → MJ → Prop) : Prop :=
  f_X4_copyFrom b g I J (fun (I_1 : MI) (J_2 : MJ) => ((¬ (0 : Int32) < 0 ∧ ¬ (0 : Int32) < 0 ∧ ¬ (240 : Int32) < 0 ∧ (0 : Int32).toNatClampNeg + (240 : Int32).toNatClampNeg ≤ 240 ∧ (0 : Int32).toNatClampNeg + (240 : Int32).toNatClampNeg ≤ 240) ∧ ∀ I_4 : MI, I_4 = rI I_1 b 7 (va_cpy (I_1 g 7) (I_1 b 7) (0 : Int32).toNatClampNeg (0 : Int32).toNatClampNeg (240 : Int32).toNatClampNeg) → ((¬ (0 : Int32) < 0 ∧ ¬ (0 : Int32) < 0 ∧ ¬ (6 : Int32) < 0 ∧ (0 : Int32).toNatClampNeg + (6 : Int32).toNatClampNeg ≤ 6 ∧ (0 : Int32).toNatClampNeg + (6 : Int32).toNatClampNeg ≤ 6) ∧ ∀ I_6 : MI, I_6 = rI I_4 b 8 (va_cpy (I_4 g 8) (I_4 b 8) (0 : Int32).toNatClampNeg (0 : Int32).toNatClampNeg (6 : Int32).toNatClampNeg) → ((¬ (0 : Int32) < 0 ∧ ¬ (0 : Int32) < 0 ∧ ¬ (6 : Int32) < 0 ∧ (0 : Int32).toNatClampNeg + (6 : Int32).toNatClampNeg ≤ 6 ∧ (0 : Int32).toNatClampNeg + (6 : Int32).toNatClampNeg ≤ 6) ∧ ∀ I_8 : MI, I_8 = rI I_6 b 9 (va_cpy (I_6 g 9) (I_6 b 9) (0 : Int32).toNatClampNeg (0 : Int32).toNatClampNeg (6 : Int32).toNatClampNeg) → ((¬ (0 : Int32) < 0 ∧ ¬ (0 : Int32) < 0 ∧ ¬ (6 : Int32) < 0 ∧ (0 : Int32).toNatClampNeg + (6 : Int32).toNatClampNeg ≤ 6 ∧ (0 : Int32).toNatClampNeg + (6 : Int32).toNatClampNeg ≤ 6) ∧ ∀ J_10 : MJ, J_10 = rJ J_2 b 10 (va_cpy (J_2 g 10) (J_2 b 10) (0 : Int32).toNatClampNeg (0 : Int32).toNatClampNeg (6 : Int32).toNatClampNeg) → ((¬ (0 : Int32) < 0 ∧ ¬ (0 : Int32) < 0 ∧ ¬ (6 : Int32) < 0 ∧ (0 : Int32).toNatClampNeg + (6 : Int32).toNatClampNeg ≤ 6 ∧ (0 : Int32).toNatClampNeg + (6 : Int32).toNatClampNeg ≤ 6) ∧ ∀ I_12 : MI, I_12 = rI I_8 b 11 (va_cpy (I_8 g 11) (I_8 b 11) (0 : Int32).toNatClampNeg (0 : Int32).toNatClampNeg (6 : Int32).toNatClampNeg) → ((¬ (0 : Int32) < 0 ∧ ¬ (0 : Int32) < 0 ∧ ¬ (32 : Int32) < 0 ∧ (0 : Int32).toNatClampNeg + (32 : Int32).toNatClampNeg ≤ 32 ∧ (0 : Int32).toNatClampNeg + (32 : Int32).toNatClampNeg ≤ 32) ∧ ∀ J_14 : MJ, J_14 = rJ J_10 b 12 (va_cpy (J_10 g 12) (J_10 b 12) (0 : Int32).toNatClampNeg (0 : Int32).toNatClampNeg (32 : Int32).toNatClampNeg) → ((¬ (0 : Int32) < 0 ∧ ¬ (0 : Int32) < 0 ∧ ¬ (4 : Int32) < 0 ∧ (0 : Int32).toNatClampNeg + (4 : Int32).toNatClampNeg ≤ 4 ∧ (0 : Int32).toNatClampNeg + (4 : Int32).toNatClampNeg ≤ 4) ∧ ∀ I_16 : MI, I_16 = rI I_12 b 13 (va_cpy (I_12 g 13) (I_12 b 13) (0 : Int32).toNatClampNeg (0 : Int32).toNatClampNeg (4 : Int32).toNatClampNeg) → ((¬ (0 : Int32) < 0 ∧ ¬ (0 : Int32) < 0 ∧ ¬ (4 : Int32) < 0 ∧ (0 : Int32).toNatClampNeg + (4 : Int32).toNatClampNeg ≤ 4 ∧ (0 : Int32).toNatClampNeg + (4 : Int32).toNatClampNeg ≤ 4) ∧ ∀ I_18 : MI, I_18 = rI I_16 b 14 (va_cpy (I_16 g 14) (I_16 b 14) (0 : Int32).toNatClampNeg (0 : Int32).toNatClampNeg (4 : Int32).toNatClampNeg) → ∀ I_19 : MI, I_19 = sI I_18 b 0 9 (I_18 g 0 9) → ∀ I_20 : MI, I_20 = sI I_19 b 0 10 (I_19 g 0 10) → (bo (I_20 g 0 11) ∧ ∀ I_21 : MI, I_21 = sI I_20 b 0 11 (I_20 g 0 11) → Q I_21 J_14))))))))))
set_option maxRecDepth 100000 in
set_option maxHeartbeats 4000000 in
theorem c_X1_copyFrom {l : Launch} {E : EV} {ps : List (Nat × Nat)} {b : Nat} (hB : b < 11) (hM : ∀ r, r < 16 → (b, r) ∈ ps) {g : Nat} (hBg : g < 11) (hMg : ∀ r, r < 16 → (g, r) ∈ ps) {I : MI} {J : MJ} {Q : MI → MJ → Prop} (hf : f_X1_copyFrom b g I J Q) : KV l yX1_copyFrom wsX1_copyFrom rmX1_copyFrom E ps [.ref (eA E b 0), .ref (eA E g 0)] I J Q := by
  refine K_ofV (cc := cX1_copyFrom) (maxL := 2) (by decide +kernel) rfl (Nat.le_of_ble_eq_true rfl) (fun p e s m args below meth c Qm hret S hK hX => ?_)
  have hA : ∀ q, s.heap.size ≤ q → AA E ps s.heap.size q := fun _ h => Or.inr h
  have k1 := S.2.2.2.2 (.fieldLink RX1 12 "RhymeRoofs$Game" "rules" "LRhymeRoofs$Rules;") (by decide +kernel)
  have iX1 : ∀ w ∈ wsX10, w ∈ wsX1_copyFrom := fun _ h => List.mem_cons_of_mem _ (List.mem_append_left _ (List.mem_append_left _ (List.mem_append_right _ h)))
  have k2 := S.2.2.2.2 (.fieldLink RX1 18 "RhymeRoofs$Game" "letters" "[I") (by decide +kernel)
  have k3 := S.2.2.2.2 (.methodLink RX1 77 arraycopyName) (by decide +kernel)
  have k4 := S.2.2.2.2 (.native arraycopyName) (by decide +kernel)
  have k5 := S.2.2.2.2 (.static arraycopyName) (by decide +kernel)
  have k6 := S.2.2.2.2 (.initialized "java/lang/System") (by decide +kernel)
  have k7 := S.2.2.2.2 (.fieldLink RX1 22 "RhymeRoofs$Game" "lettersOn" "[I") (by decide +kernel)
  have k8 := S.2.2.2.2 (.fieldLink RX1 25 "RhymeRoofs$Game" "wordsOn" "[I") (by decide +kernel)
  have k9 := S.2.2.2.2 (.fieldLink RX1 28 "RhymeRoofs$Game" "lastOn" "[J") (by decide +kernel)
  have k10 := S.2.2.2.2 (.fieldLink RX1 32 "RhymeRoofs$Game" "ownerOf" "[I") (by decide +kernel)
  have k11 := S.2.2.2.2 (.fieldLink RX1 35 "RhymeRoofs$Game" "hands" "[J") (by decide +kernel)
  have k12 := S.2.2.2.2 (.fieldLink RX1 38 "RhymeRoofs$Game" "handSize" "[I") (by decide +kernel)
  have k13 := S.2.2.2.2 (.fieldLink RX1 41 "RhymeRoofs$Game" "points" "[I") (by decide +kernel)
  have k14 := S.2.2.2.2 (.fieldLink RX1 62 "RhymeRoofs$Game" "turn" "I") (by decide +kernel)
  have k15 := S.2.2.2.2 (.fieldLink RX1 66 "RhymeRoofs$Game" "passes" "I") (by decide +kernel)
  have k16 := S.2.2.2.2 (.fieldLink RX1 69 "RhymeRoofs$Game" "over" "Z") (by decide +kernel)
  intro H locs ls hP hD hS hl
  unfold f_X1_copyFrom at hf
  refine lv_aload_n S.1 S.2.1 dX1_copyFrom_0 rfl (lv_at hl 0 rfl) ?_
  refine gfX1_0 S iX1 hK hP hB (hM 0 (by decide)) k1 dX1_copyFrom_1 ?_
  refine lv_aload_n S.1 S.2.1 dX1_copyFrom_4 rfl (lv_at hl 1 rfl) ?_
  refine gfX1_0 S iX1 hK hP hBg (hMg 0 (by decide)) k1 dX1_copyFrom_5 ?_
  refine R_cVv (As := [.ref (eA E g 1)]) (rest := []) S (c_X4_copyFrom (hB := hB) (hM := hM) (hBg := hBg) (hMg := hMg) hf) gX1_copyFrom_X4_copyFrom rfl yk_X4_copyFrom ⟨⟨Nat.le_of_ble_eq_true rfl, Nat.le_of_ble_eq_true rfl⟩, rfl, rfl⟩ hK hP hD hS hX hA (hM 1 (by decide)) (cF_g E hB _ _ 1) rfl rfl hl.1 rfl (Nat.le_of_ble_eq_true rfl) ⟨Nat.zero_le _, Nat.zero_le _⟩ dX1_copyFrom_8 (fun I_1 J_2 H locs hf hP hD hS => ?_)
  refine lv_aload_n S.1 S.2.1 dX1_copyFrom_11 rfl (lv_at hl 1 rfl) ?_
  refine gfX1_1 S iX1 hK hP hBg (hMg 0 (by decide)) k2 dX1_copyFrom_12 ?_
  refine lv_iconst (v := 0) S.1 S.2.1 dX1_copyFrom_15 rfl ?_
  refine lv_aload_n S.1 S.2.1 dX1_copyFrom_16 rfl (lv_at hl 0 rfl) ?_
  refine gfX1_1 S iX1 hK hP hB (hM 0 (by decide)) k2 dX1_copyFrom_17 ?_
  refine lv_iconst (v := 0) S.1 S.2.1 dX1_copyFrom_20 rfl ?_
  refine lv_aload_n S.1 S.2.1 dX1_copyFrom_21 rfl (lv_at hl 0 rfl) ?_
  refine gfX1_1 S iX1 hK hP hB (hM 0 (by decide)) k2 dX1_copyFrom_22 ?_
  refine R_alenI S.1 S.2.1 hK hP (hM 7 (by decide)) (IAg7 E hB) dX1_copyFrom_25 ?_
  obtain ⟨h_3, hf⟩ := hf
  refine nm_o hf (fun I_4 eI_4 hf => ?_)
  refine R_cpyI S (hl.1) k3 k4 k5 k6 hK hP hD hS (hMg 7 (by decide)) (IAg7 E hBg) (hM 7 (by decide)) (IAg7 E hB) h_3 (Nat.le_of_ble_eq_true rfl) (Nat.le_of_ble_eq_true rfl) dX1_copyFrom_26 eI_4 (fun H locs hP hD hS => ?_)
  refine lv_aload_n S.1 S.2.1 dX1_copyFrom_29 rfl (lv_at hl 1 rfl) ?_
  refine gfX1_2 S iX1 hK hP hBg (hMg 0 (by decide)) k7 dX1_copyFrom_30 ?_
  refine lv_iconst (v := 0) S.1 S.2.1 dX1_copyFrom_33 rfl ?_
  refine lv_aload_n S.1 S.2.1 dX1_copyFrom_34 rfl (lv_at hl 0 rfl) ?_
  refine gfX1_2 S iX1 hK hP hB (hM 0 (by decide)) k7 dX1_copyFrom_35 ?_
  refine lv_iconst (v := 0) S.1 S.2.1 dX1_copyFrom_38 rfl ?_
  refine lv_aload_n S.1 S.2.1 dX1_copyFrom_39 rfl (lv_at hl 0 rfl) ?_
  refine gfX1_2 S iX1 hK hP hB (hM 0 (by decide)) k7 dX1_copyFrom_40 ?_
  refine R_alenI S.1 S.2.1 hK hP (hM 8 (by decide)) (IAg8 E hB) dX1_copyFrom_43 ?_
  obtain ⟨h_5, hf⟩ := hf
  refine nm_o hf (fun I_6 eI_6 hf => ?_)
  refine R_cpyI S (hl.1) k3 k4 k5 k6 hK hP hD hS (hMg 8 (by decide)) (IAg8 E hBg) (hM 8 (by decide)) (IAg8 E hB) h_5 (Nat.le_of_ble_eq_true rfl) (Nat.le_of_ble_eq_true rfl) dX1_copyFrom_44 eI_6 (fun H locs hP hD hS => ?_)
  refine lv_aload_n S.1 S.2.1 dX1_copyFrom_47 rfl (lv_at hl 1 rfl) ?_
  refine gfX1_3 S iX1 hK hP hBg (hMg 0 (by decide)) k8 dX1_copyFrom_48 ?_
  refine lv_iconst (v := 0) S.1 S.2.1 dX1_copyFrom_51 rfl ?_
  refine lv_aload_n S.1 S.2.1 dX1_copyFrom_52 rfl (lv_at hl 0 rfl) ?_
  refine gfX1_3 S iX1 hK hP hB (hM 0 (by decide)) k8 dX1_copyFrom_53 ?_
  refine lv_iconst (v := 0) S.1 S.2.1 dX1_copyFrom_56 rfl ?_
  refine lv_aload_n S.1 S.2.1 dX1_copyFrom_57 rfl (lv_at hl 0 rfl) ?_
  refine gfX1_3 S iX1 hK hP hB (hM 0 (by decide)) k8 dX1_copyFrom_58 ?_
  refine R_alenI S.1 S.2.1 hK hP (hM 9 (by decide)) (IAg9 E hB) dX1_copyFrom_61 ?_
  obtain ⟨h_7, hf⟩ := hf
  refine nm_o hf (fun I_8 eI_8 hf => ?_)
  refine R_cpyI S (hl.1) k3 k4 k5 k6 hK hP hD hS (hMg 9 (by decide)) (IAg9 E hBg) (hM 9 (by decide)) (IAg9 E hB) h_7 (Nat.le_of_ble_eq_true rfl) (Nat.le_of_ble_eq_true rfl) dX1_copyFrom_62 eI_8 (fun H locs hP hD hS => ?_)
  refine lv_aload_n S.1 S.2.1 dX1_copyFrom_65 rfl (lv_at hl 1 rfl) ?_
  refine gfX1_4 S iX1 hK hP hBg (hMg 0 (by decide)) k9 dX1_copyFrom_66 ?_
  refine lv_iconst (v := 0) S.1 S.2.1 dX1_copyFrom_69 rfl ?_
  refine lv_aload_n S.1 S.2.1 dX1_copyFrom_70 rfl (lv_at hl 0 rfl) ?_
  refine gfX1_4 S iX1 hK hP hB (hM 0 (by decide)) k9 dX1_copyFrom_71 ?_
  refine lv_iconst (v := 0) S.1 S.2.1 dX1_copyFrom_74 rfl ?_
  refine lv_aload_n S.1 S.2.1 dX1_copyFrom_75 rfl (lv_at hl 0 rfl) ?_
  refine gfX1_4 S iX1 hK hP hB (hM 0 (by decide)) k9 dX1_copyFrom_76 ?_
  refine R_alenL S.1 S.2.1 hK hP (hM 10 (by decide)) (LAg10 E hB) dX1_copyFrom_79 ?_
  obtain ⟨h_9, hf⟩ := hf
  refine nm_o hf (fun J_10 eJ_10 hf => ?_)
  refine R_cpyL S (hl.1) k3 k4 k5 k6 hK hP hD hS (hMg 10 (by decide)) (LAg10 E hBg) (hM 10 (by decide)) (LAg10 E hB) h_9 (Nat.le_of_ble_eq_true rfl) (Nat.le_of_ble_eq_true rfl) dX1_copyFrom_80 eJ_10 (fun H locs hP hD hS => ?_)
  refine lv_aload_n S.1 S.2.1 dX1_copyFrom_83 rfl (lv_at hl 1 rfl) ?_
  refine gfX1_5 S iX1 hK hP hBg (hMg 0 (by decide)) k10 dX1_copyFrom_84 ?_
  refine lv_iconst (v := 0) S.1 S.2.1 dX1_copyFrom_87 rfl ?_
  refine lv_aload_n S.1 S.2.1 dX1_copyFrom_88 rfl (lv_at hl 0 rfl) ?_
  refine gfX1_5 S iX1 hK hP hB (hM 0 (by decide)) k10 dX1_copyFrom_89 ?_
  refine lv_iconst (v := 0) S.1 S.2.1 dX1_copyFrom_92 rfl ?_
  refine lv_aload_n S.1 S.2.1 dX1_copyFrom_93 rfl (lv_at hl 0 rfl) ?_
  refine gfX1_5 S iX1 hK hP hB (hM 0 (by decide)) k10 dX1_copyFrom_94 ?_
  refine R_alenI S.1 S.2.1 hK hP (hM 11 (by decide)) (IAg11 E hB) dX1_copyFrom_97 ?_
  obtain ⟨h_11, hf⟩ := hf
  refine nm_o hf (fun I_12 eI_12 hf => ?_)
  refine R_cpyI S (hl.1) k3 k4 k5 k6 hK hP hD hS (hMg 11 (by decide)) (IAg11 E hBg) (hM 11 (by decide)) (IAg11 E hB) h_11 (Nat.le_of_ble_eq_true rfl) (Nat.le_of_ble_eq_true rfl) dX1_copyFrom_98 eI_12 (fun H locs hP hD hS => ?_)
  refine lv_aload_n S.1 S.2.1 dX1_copyFrom_101 rfl (lv_at hl 1 rfl) ?_
  refine gfX1_6 S iX1 hK hP hBg (hMg 0 (by decide)) k11 dX1_copyFrom_102 ?_
  refine lv_iconst (v := 0) S.1 S.2.1 dX1_copyFrom_105 rfl ?_
  refine lv_aload_n S.1 S.2.1 dX1_copyFrom_106 rfl (lv_at hl 0 rfl) ?_
  refine gfX1_6 S iX1 hK hP hB (hM 0 (by decide)) k11 dX1_copyFrom_107 ?_
  refine lv_iconst (v := 0) S.1 S.2.1 dX1_copyFrom_110 rfl ?_
  refine lv_aload_n S.1 S.2.1 dX1_copyFrom_111 rfl (lv_at hl 0 rfl) ?_
  refine gfX1_6 S iX1 hK hP hB (hM 0 (by decide)) k11 dX1_copyFrom_112 ?_
  refine R_alenL S.1 S.2.1 hK hP (hM 12 (by decide)) (LAg12 E hB) dX1_copyFrom_115 ?_
  obtain ⟨h_13, hf⟩ := hf
  refine nm_o hf (fun J_14 eJ_14 hf => ?_)
  refine R_cpyL S (hl.1) k3 k4 k5 k6 hK hP hD hS (hMg 12 (by decide)) (LAg12 E hBg) (hM 12 (by decide)) (LAg12 E hB) h_13 (Nat.le_of_ble_eq_true rfl) (Nat.le_of_ble_eq_true rfl) dX1_copyFrom_116 eJ_14 (fun H locs hP hD hS => ?_)
  refine lv_aload_n S.1 S.2.1 dX1_copyFrom_119 rfl (lv_at hl 1 rfl) ?_
  refine gfX1_7 S iX1 hK hP hBg (hMg 0 (by decide)) k12 dX1_copyFrom_120 ?_
  refine lv_iconst (v := 0) S.1 S.2.1 dX1_copyFrom_123 rfl ?_
  refine lv_aload_n S.1 S.2.1 dX1_copyFrom_124 rfl (lv_at hl 0 rfl) ?_
  refine gfX1_7 S iX1 hK hP hB (hM 0 (by decide)) k12 dX1_copyFrom_125 ?_
  refine lv_iconst (v := 0) S.1 S.2.1 dX1_copyFrom_128 rfl ?_
  refine lv_aload_n S.1 S.2.1 dX1_copyFrom_129 rfl (lv_at hl 0 rfl) ?_
  refine gfX1_7 S iX1 hK hP hB (hM 0 (by decide)) k12 dX1_copyFrom_130 ?_
  refine R_alenI S.1 S.2.1 hK hP (hM 13 (by decide)) (IAg13 E hB) dX1_copyFrom_133 ?_
  obtain ⟨h_15, hf⟩ := hf
  refine nm_o hf (fun I_16 eI_16 hf => ?_)
  refine R_cpyI S (hl.1) k3 k4 k5 k6 hK hP hD hS (hMg 13 (by decide)) (IAg13 E hBg) (hM 13 (by decide)) (IAg13 E hB) h_15 (Nat.le_of_ble_eq_true rfl) (Nat.le_of_ble_eq_true rfl) dX1_copyFrom_134 eI_16 (fun H locs hP hD hS => ?_)
  refine lv_aload_n S.1 S.2.1 dX1_copyFrom_137 rfl (lv_at hl 1 rfl) ?_
  refine gfX1_8 S iX1 hK hP hBg (hMg 0 (by decide)) k13 dX1_copyFrom_138 ?_
  refine lv_iconst (v := 0) S.1 S.2.1 dX1_copyFrom_141 rfl ?_
  refine lv_aload_n S.1 S.2.1 dX1_copyFrom_142 rfl (lv_at hl 0 rfl) ?_
  refine gfX1_8 S iX1 hK hP hB (hM 0 (by decide)) k13 dX1_copyFrom_143 ?_
  refine lv_iconst (v := 0) S.1 S.2.1 dX1_copyFrom_146 rfl ?_
  refine lv_aload_n S.1 S.2.1 dX1_copyFrom_147 rfl (lv_at hl 0 rfl) ?_
  refine gfX1_8 S iX1 hK hP hB (hM 0 (by decide)) k13 dX1_copyFrom_148 ?_
  refine R_alenI S.1 S.2.1 hK hP (hM 14 (by decide)) (IAg14 E hB) dX1_copyFrom_151 ?_
  obtain ⟨h_17, hf⟩ := hf
  refine nm_o hf (fun I_18 eI_18 hf => ?_)
  refine R_cpyI S (hl.1) k3 k4 k5 k6 hK hP hD hS (hMg 14 (by decide)) (IAg14 E hBg) (hM 14 (by decide)) (IAg14 E hB) h_17 (Nat.le_of_ble_eq_true rfl) (Nat.le_of_ble_eq_true rfl) dX1_copyFrom_152 eI_18 (fun H locs hP hD hS => ?_)
  refine lv_aload_n S.1 S.2.1 dX1_copyFrom_155 rfl (lv_at hl 0 rfl) ?_
  refine lv_aload_n S.1 S.2.1 dX1_copyFrom_156 rfl (lv_at hl 1 rfl) ?_
  refine gfX1_9 S iX1 hK hP hBg (hMg 0 (by decide)) k14 dX1_copyFrom_157 ?_
  refine nm_o hf (fun I_19 eI_19 hf => ?_)
  refine pfX1_9 S iX1 hK hP hD hS hB (hM 0 (by decide)) k14 dX1_copyFrom_160 eI_19 (fun H locs hP hD hS => ?_)
  refine lv_aload_n S.1 S.2.1 dX1_copyFrom_163 rfl (lv_at hl 0 rfl) ?_
  refine lv_aload_n S.1 S.2.1 dX1_copyFrom_164 rfl (lv_at hl 1 rfl) ?_
  refine gfX1_10 S iX1 hK hP hBg (hMg 0 (by decide)) k15 dX1_copyFrom_165 ?_
  refine nm_o hf (fun I_20 eI_20 hf => ?_)
  refine pfX1_10 S iX1 hK hP hD hS hB (hM 0 (by decide)) k15 dX1_copyFrom_168 eI_20 (fun H locs hP hD hS => ?_)
  refine lv_aload_n S.1 S.2.1 dX1_copyFrom_171 rfl (lv_at hl 0 rfl) ?_
  refine lv_aload_n S.1 S.2.1 dX1_copyFrom_172 rfl (lv_at hl 1 rfl) ?_
  refine gfX1_11 S iX1 hK hP hBg (hMg 0 (by decide)) k16 dX1_copyFrom_173 ?_
  obtain ⟨h_22, hf⟩ := hf
  refine nm_o hf (fun I_21 eI_21 hf => ?_)
  refine pfX1_11 S iX1 hK hP hD hS hB (hM 0 (by decide)) k16 h_22 dX1_copyFrom_176 eI_21 (fun H locs hP hD hS => ?_)
  exact hret hf hP hD hS dX1_copyFrom_179
abbrev rmX1_letterOnTile : Room := { frames := 0, cells := 0, slots := 0, locals := 0 }
theorem yk_X1_letterOnTile : yOk yX1_letterOnTile RX1 2 := by unfold yOk; decide +kernel
def f_X1_letterOnTile (b : Nat) (x1 : Int32) (x2 : Int32) (I : MI) (J : MJ) (Q : Int32 → MI → MJ → Prop) : Prop :=
  (vp_in x1 6 ∧ (((I b 8 x1.toNatClampNeg) ≤ x2 → Q (-1 : Int32) I J) ∧ (¬ (I b 8 x1.toNatClampNeg) ≤ x2 → (vp_in ((x1 * (40 : Int32)) + x2) 240 ∧ Q (I b 7 ((x1 * (40 : Int32)) + x2).toNatClampNeg) I J))))
set_option maxRecDepth 100000 in
set_option maxHeartbeats 4000000 in
theorem c_X1_letterOnTile {l : Launch} {E : EV} {ps : List (Nat × Nat)} {b : Nat} (hB : b < 11) (hM : ∀ r, r < 16 → (b, r) ∈ ps) {x1 : Int32} {x2 : Int32} {I : MI} {J : MJ} {Q : Int32 → MI → MJ → Prop} (hf : f_X1_letterOnTile b x1 x2 I J Q) : KI l yX1_letterOnTile wsX1_letterOnTile rmX1_letterOnTile E ps [.ref (eA E b 0), .int x1, .int x2] I J Q := by
  refine K_ofI (cc := cX1_letterOnTile) (maxL := 3) (ty := .int) (by decide +kernel) rfl (Nat.le_of_ble_eq_true rfl) (fun p e s m args below meth c Qm hret S hK hX => ?_)
  have hA : ∀ q, s.heap.size ≤ q → AA E ps s.heap.size q := fun _ h => Or.inr h
  have k1 := S.2.2.2.2 (.fieldLink RX1 22 "RhymeRoofs$Game" "lettersOn" "[I") (by decide +kernel)
  have iX1 : ∀ w ∈ wsX10, w ∈ wsX1_letterOnTile := fun _ h => List.mem_cons_of_mem _ (List.mem_append_right _ h)
  have k2 := S.2.2.2.2 (.fieldLink RX1 18 "RhymeRoofs$Game" "letters" "[I") (by decide +kernel)
  intro H locs ls hP hD hS hl
  unfold f_X1_letterOnTile at hf
  refine lv_iload_n S.1 S.2.1 dX1_letterOnTile_0 rfl (lv_at hl 2 rfl) ?_
  refine lv_aload_n S.1 S.2.1 dX1_letterOnTile_1 rfl (lv_at hl 0 rfl) ?_
  refine gfX1_2 S iX1 hK hP hB (hM 0 (by decide)) k1 dX1_letterOnTile_2 ?_
  refine lv_iload_n S.1 S.2.1 dX1_letterOnTile_5 rfl (lv_at hl 1 rfl) ?_
  obtain ⟨h_1, hf⟩ := hf
  refine R_iald S.1 S.2.1 hK hP (hM 8 (by decide)) (IAg8 E hB) h_1 dX1_letterOnTile_6 ?_
  refine lv_icmp_ge (tgt := 24) S.1 S.2.1 dX1_letterOnTile_7 (by decide) (fun h_2 => ?_) (fun h_2 => ?_)
  · have hf := hf.1 h_2
    refine lv_iconst (v := (-1)) S.1 S.2.1 dX1_letterOnTile_24 rfl ?_
    exact hret hf rfl hP hD hS dX1_letterOnTile_25
  · have hf := hf.2 h_2
    refine lv_aload_n S.1 S.2.1 dX1_letterOnTile_10 rfl (lv_at hl 0 rfl) ?_
    refine gfX1_1 S iX1 hK hP hB (hM 0 (by decide)) k2 dX1_letterOnTile_11 ?_
    refine lv_iload_n S.1 S.2.1 dX1_letterOnTile_14 rfl (lv_at hl 1 rfl) ?_
    refine lv_bipush (v := 40) S.1 S.2.1 dX1_letterOnTile_15 rfl ?_
    refine lv_imul S.1 S.2.1 dX1_letterOnTile_17 ?_
    refine lv_iload_n S.1 S.2.1 dX1_letterOnTile_18 rfl (lv_at hl 2 rfl) ?_
    refine lv_iadd S.1 S.2.1 dX1_letterOnTile_19 ?_
    obtain ⟨h_3, hf⟩ := hf
    refine R_iald S.1 S.2.1 hK hP (hM 7 (by decide)) (IAg7 E hB) h_3 dX1_letterOnTile_20 ?_
    refine lv_goto (tgt := 25) S.1 S.2.1 dX1_letterOnTile_21 (by decide) ?_
    exact hret hf rfl hP hD hS dX1_letterOnTile_25
abbrev rmX1_freeTiles : Room := { frames := 0, cells := 0, slots := 0, locals := 0 }
theorem yk_X1_freeTiles : yOk yX1_freeTiles RX1 1 := by unfold yOk; decide +kernel
def f_X1_freeTiles (b : Nat) (x1 : Int32) (I : MI) (J : MJ) (Q : Int32 → MI → MJ → Prop) : Prop :=
  (vp_in x1 6 ∧ (vp_in x1 6 ∧ Q ((I b 3 x1.toNatClampNeg) - (I b 8 x1.toNatClampNeg)) I J))
set_option maxRecDepth 100000 in
set_option maxHeartbeats 4000000 in
theorem c_X1_freeTiles {l : Launch} {E : EV} {ps : List (Nat × Nat)} {b : Nat} (hB : b < 11) (hM : ∀ r, r < 16 → (b, r) ∈ ps) {x1 : Int32} {I : MI} {J : MJ} {Q : Int32 → MI → MJ → Prop} (hf : f_X1_freeTiles b x1 I J Q) : KI l yX1_freeTiles wsX1_freeTiles rmX1_freeTiles E ps [.ref (eA E b 0), .int x1] I J Q := by
  refine K_ofI (cc := cX1_freeTiles) (maxL := 2) (ty := .int) (by decide +kernel) rfl (Nat.le_of_ble_eq_true rfl) (fun p e s m args below meth c Qm hret S hK hX => ?_)
  have hA : ∀ q, s.heap.size ≤ q → AA E ps s.heap.size q := fun _ h => Or.inr h
  have k1 := S.2.2.2.2 (.fieldLink RX1 12 "RhymeRoofs$Game" "rules" "LRhymeRoofs$Rules;") (by decide +kernel)
  have iX1 : ∀ w ∈ wsX10, w ∈ wsX1_freeTiles := fun _ h => List.mem_cons_of_mem _ (List.mem_append_left _ (List.mem_append_right _ h))
  have k2 := S.2.2.2.2 (.fieldLink RX1 111 "RhymeRoofs$Rules" "tiles" "[I") (by decide +kernel)
  have iX4 : ∀ w ∈ wsX40, w ∈ wsX1_freeTiles := fun _ h => List.mem_cons_of_mem _ (List.mem_append_right _ h)
  have k3 := S.2.2.2.2 (.fieldLink RX1 22 "RhymeRoofs$Game" "lettersOn" "[I") (by decide +kernel)
  intro H locs ls hP hD hS hl
  unfold f_X1_freeTiles at hf
  refine lv_aload_n S.1 S.2.1 dX1_freeTiles_0 rfl (lv_at hl 0 rfl) ?_
  refine gfX1_0 S iX1 hK hP hB (hM 0 (by decide)) k1 dX1_freeTiles_1 ?_
  refine gfX4_0 S iX4 hK hP hB (hM 1 (by decide)) k2 dX1_freeTiles_4 ?_
  refine lv_iload_n S.1 S.2.1 dX1_freeTiles_7 rfl (lv_at hl 1 rfl) ?_
  obtain ⟨h_1, hf⟩ := hf
  refine R_iald S.1 S.2.1 hK hP (hM 3 (by decide)) (IAg3 E hB) h_1 dX1_freeTiles_8 ?_
  refine lv_aload_n S.1 S.2.1 dX1_freeTiles_9 rfl (lv_at hl 0 rfl) ?_
  refine gfX1_2 S iX1 hK hP hB (hM 0 (by decide)) k3 dX1_freeTiles_10 ?_
  refine lv_iload_n S.1 S.2.1 dX1_freeTiles_13 rfl (lv_at hl 1 rfl) ?_
  obtain ⟨h_2, hf⟩ := hf
  refine R_iald S.1 S.2.1 hK hP (hM 8 (by decide)) (IAg8 E hB) h_2 dX1_freeTiles_14 ?_
  refine lv_isub S.1 S.2.1 dX1_freeTiles_15 ?_
  exact hret hf rfl hP hD hS dX1_freeTiles_16
abbrev rmX1_wordOf : Room := { frames := 0, cells := 0, slots := 0, locals := 0 }
theorem yk_X1_wordOf : yOk yX1_wordOf RX1 2 := by unfold yOk; decide +kernel
def f_X1_wordOf (b : Nat) (x1 : Int32) (x2 : Int32) (I : MI) (J : MJ) (Q : Int64 → MI → MJ → Prop) : Prop :=
  (vp_in ((x1 * (8 : Int32)) + x2) 32 ∧ Q (J b 12 ((x1 * (8 : Int32)) + x2).toNatClampNeg) I J)
set_option maxRecDepth 100000 in
set_option maxHeartbeats 4000000 in
theorem c_X1_wordOf {l : Launch} {E : EV} {ps : List (Nat × Nat)} {b : Nat} (hB : b < 11) (hM : ∀ r, r < 16 → (b, r) ∈ ps) {x1 : Int32} {x2 : Int32} {I : MI} {J : MJ} {Q : Int64 → MI → MJ → Prop} (hf : f_X1_wordOf b x1 x2 I J Q) : KL l yX1_wordOf wsX1_wordOf rmX1_wordOf E ps [.ref (eA E b 0), .int x1, .int x2] I J Q := by
  refine K_ofL (cc := cX1_wordOf) (maxL := 3) (by decide +kernel) rfl (Nat.le_of_ble_eq_true rfl) (fun p e s m args below meth c Qm hret S hK hX => ?_)
  have hA : ∀ q, s.heap.size ≤ q → AA E ps s.heap.size q := fun _ h => Or.inr h
  have k1 := S.2.2.2.2 (.fieldLink RX1 35 "RhymeRoofs$Game" "hands" "[J") (by decide +kernel)
  have iX1 : ∀ w ∈ wsX10, w ∈ wsX1_wordOf := fun _ h => List.mem_cons_of_mem _ (List.mem_append_right _ h)
  intro H locs ls hP hD hS hl
  unfold f_X1_wordOf at hf
  refine lv_aload_n S.1 S.2.1 dX1_wordOf_0 rfl (lv_at hl 0 rfl) ?_
  refine gfX1_6 S iX1 hK hP hB (hM 0 (by decide)) k1 dX1_wordOf_1 ?_
  refine lv_iload_n S.1 S.2.1 dX1_wordOf_4 rfl (lv_at hl 1 rfl) ?_
  refine lv_bipush (v := 8) S.1 S.2.1 dX1_wordOf_5 rfl ?_
  refine lv_imul S.1 S.2.1 dX1_wordOf_7 ?_
  refine lv_iload_n S.1 S.2.1 dX1_wordOf_8 rfl (lv_at hl 2 rfl) ?_
  refine lv_iadd S.1 S.2.1 dX1_wordOf_9 ?_
  obtain ⟨h_1, hf⟩ := hf
  refine R_lald S.1 S.2.1 hK hP (hM 12 (by decide)) (LAg12 E hB) h_1 dX1_wordOf_10 ?_
  exact hret hf hP hD hS dX1_wordOf_11
abbrev rmX1_wordsOfHands : Room := { frames := 0, cells := 0, slots := 0, locals := 0 }
theorem yk_X1_wordsOfHands : yOk yX1_wordsOfHands RX1 0 := by unfold yOk; decide +kernel
def f_X1_wordsOfHands_B4 (b : Nat) (K30 : Int32 → MI → MJ → Prop) (rec4 : Int32 → Int32 → MI → MJ → Prop) (x1_1 : Int32) (x2_2 : Int32) (I_3 : MI) (J_4 : MJ) : Prop :=
  (((I_3 b 1 4) ≤ x2_2 → K30 x1_1 I_3 J_4) ∧ (¬ (I_3 b 1 4) ≤ x2_2 → (vp_in x2_2 4 ∧ ∀ x1_7 : Int32, x1_7 = (x1_1 + (I_3 b 13 x2_2.toNatClampNeg)) → ∀ x2_8 : Int32, x2_8 = x2_2 + (1 : Int32) → rec4 x1_7 x2_8 I_3 J_4)))
def f_X1_wordsOfHands_L4 (b : Nat) (K30 : Int32 → MI → MJ → Prop) : Nat → Int32 → Int32 → MI → MJ → Prop
  | 0, _, _, _, _ => False
  | n + 1, x1_1, x2_2, I_3, J_4 => f_X1_wordsOfHands_B4 b K30 (f_X1_wordsOfHands_L4 b K30 n) x1_1 x2_2 I_3 J_4
def f_X1_wordsOfHands (b : Nat) (I : MI) (J : MJ) (Q : Int32 → MI → MJ → Prop) : Prop :=
  ∃ n : Nat, f_X1_wordsOfHands_L4 b (fun (x1_9 : Int32) (I_10 : MI) (J_11 : MJ) => Q x1_9 I_10 J_11) n (0 : Int32) (0 : Int32) I J
set_option maxRecDepth 100000 in
set_option maxHeartbeats 4000000 in
theorem c_X1_wordsOfHands {l : Launch} {E : EV} {ps : List (Nat × Nat)} {b : Nat} (hB : b < 11) (hM : ∀ r, r < 16 → (b, r) ∈ ps) {I : MI} {J : MJ} {Q : Int32 → MI → MJ → Prop} (hf : f_X1_wordsOfHands b I J Q) : KI l yX1_wordsOfHands wsX1_wordsOfHands rmX1_wordsOfHands E ps [.ref (eA E b 0)] I J Q := by
  refine K_ofI (cc := cX1_wordsOfHands) (maxL := 3) (ty := .int) (by decide +kernel) rfl (Nat.le_of_ble_eq_true rfl) (fun p e s m args below meth c Qm hret S hK hX => ?_)
  have hA : ∀ q, s.heap.size ≤ q → AA E ps s.heap.size q := fun _ h => Or.inr h
  have k1 := S.2.2.2.2 (.fieldLink RX1 12 "RhymeRoofs$Game" "rules" "LRhymeRoofs$Rules;") (by decide +kernel)
  have iX1 : ∀ w ∈ wsX10, w ∈ wsX1_wordsOfHands := fun _ h => List.mem_cons_of_mem _ (List.mem_append_left _ (List.mem_append_right _ h))
  have k2 := S.2.2.2.2 (.fieldLink RX1 86 "RhymeRoofs$Rules" "players" "I") (by decide +kernel)
  have iX4 : ∀ w ∈ wsX40, w ∈ wsX1_wordsOfHands := fun _ h => List.mem_cons_of_mem _ (List.mem_append_right _ h)
  have k3 := S.2.2.2.2 (.fieldLink RX1 38 "RhymeRoofs$Game" "handSize" "[I") (by decide +kernel)
  intro H locs ls hP hD hS hl
  unfold f_X1_wordsOfHands at hf
  refine lv_iconst (v := 0) S.1 S.2.1 dX1_wordsOfHands_0 rfl ?_
  refine lv_istore_n (lv' := [(1, .int (0 : Int32)), (0, .ref (eA E b 0))]) S.1 S.2.1 dX1_wordsOfHands_1 rfl hl (by decide) rfl (fun ls hl => ?_)
  refine lv_iconst (v := 0) S.1 S.2.1 dX1_wordsOfHands_2 rfl ?_
  refine lv_istore_n (lv' := [(2, .int (0 : Int32)), (1, .int (0 : Int32)), (0, .ref (eA E b 0))]) S.1 S.2.1 dX1_wordsOfHands_3 rfl hl (by decide) rfl (fun ls hl => ?_)
  obtain ⟨n_12, hf⟩ := hf
  have L4 : ∀ (K30 : Int32 → MI → MJ → Prop), (∀ (x1_9 : Int32) (I_10 : MI) (J_11 : MJ), K30 x1_9 I_10 J_11 → Wj p l e (rmX1_wordsOfHands) s m args below meth c Qm E ps 3 I_10 J_11 30 [(1, .int x1_9)] []) → ∀ (n : Nat) (x1_1 : Int32) (x2_2 : Int32) (I_3 : MI) (J_4 : MJ), f_X1_wordsOfHands_L4 b K30 n x1_1 x2_2 I_3 J_4 → Wj p l e (rmX1_wordsOfHands) s m args below meth c Qm E ps 3 I_3 J_4 4 [(0, .ref (eA E b 0)), (1, .int x1_1), (2, .int x2_2)] [] := by
    intro K30 kx30 n
    induction n with
    | zero => intro x1_1 x2_2 I_3 J_4 hf; exact hf.elim
    | succ n ih4 =>
      intro x1_1 x2_2 I_3 J_4 hf
      have hf : f_X1_wordsOfHands_B4 b K30 (f_X1_wordsOfHands_L4 b K30 n) x1_1 x2_2 I_3 J_4 := hf
      intro H locs ls hP hD hS hl
      unfold f_X1_wordsOfHands_B4 at hf
      refine lv_iload_n S.1 S.2.1 dX1_wordsOfHands_4 rfl (lv_at hl 2 rfl) ?_
      refine lv_aload_n S.1 S.2.1 dX1_wordsOfHands_5 rfl (lv_at hl 0 rfl) ?_
      refine gfX1_0 S iX1 hK hP hB (hM 0 (by decide)) k1 dX1_wordsOfHands_6 ?_
      refine gfX4_4 S iX4 hK hP hB (hM 1 (by decide)) k2 dX1_wordsOfHands_9 ?_
      refine lv_icmp_ge (tgt := 30) S.1 S.2.1 dX1_wordsOfHands_12 (by decide) (fun h_5 => ?_) (fun h_5 => ?_)
      · have hf := hf.1 h_5
        exact kx30 _ _ _ hf _ _ _ hP hD hS (lv_sub hl [1] rfl)
      · have hf := hf.2 h_5
        refine lv_iload_n S.1 S.2.1 dX1_wordsOfHands_15 rfl (lv_at hl 1 rfl) ?_
        refine lv_aload_n S.1 S.2.1 dX1_wordsOfHands_16 rfl (lv_at hl 0 rfl) ?_
        refine gfX1_7 S iX1 hK hP hB (hM 0 (by decide)) k3 dX1_wordsOfHands_17 ?_
        refine lv_iload_n S.1 S.2.1 dX1_wordsOfHands_20 rfl (lv_at hl 2 rfl) ?_
        obtain ⟨h_6, hf⟩ := hf
        refine R_iald S.1 S.2.1 hK hP (hM 13 (by decide)) (IAg13 E hB) h_6 dX1_wordsOfHands_21 ?_
        refine lv_iadd S.1 S.2.1 dX1_wordsOfHands_22 ?_
        refine lv_topi (fun x1_7 ex1_7 => ?_)
        have hf := hf x1_7 ex1_7
        refine lv_istore_n (lv' := [(1, .int x1_7), (0, .ref (eA E b 0)), (2, .int x2_2)]) S.1 S.2.1 dX1_wordsOfHands_23 rfl hl (by decide) rfl (fun ls hl => ?_)
        refine nm_o hf (fun x2_8 ex2_8 hf => ?_)
        refine lv_iinc (v := x2_8) (lv' := [(2, .int x2_8), (1, .int x1_7), (0, .ref (eA E b 0))]) S.1 S.2.1 dX1_wordsOfHands_24 hl (k := 2) rfl (by rw [ex2_8]; rfl) (by decide) rfl (fun ls hl => ?_)
        refine lv_goto (tgt := 4) S.1 S.2.1 dX1_wordsOfHands_27 (by decide) ?_
        exact ih4 _ _ _ _ hf _ _ _ hP hD hS (lv_sub hl [2, 1, 0] rfl)
  refine L4 _ (fun x1_9 I_10 J_11 hf H locs ls hP hD hS hl => ?_)  n_12 _ _ _ _ hf _ _ _ hP hD hS (lv_sub hl [2, 1, 0] rfl)
  refine lv_iload_n S.1 S.2.1 dX1_wordsOfHands_30 rfl (lv_at hl 0 rfl) ?_
  exact hret hf rfl hP hD hS dX1_wordsOfHands_31
