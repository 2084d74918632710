abbrev rmX1_rankOf : Room := { frames := 2, cells := 0, slots := 0, locals := 54 }
theorem yk_X1_rankOf : yOk yX1_rankOf RX1 2 := by unfold yOk; decide +kernel
def f_X1_rankOf_J108 (b : Nat) (Q : Int32 → MI → MJ → Prop) (s_42 : Int32) (s_43 : Int32) (I_44 : MI) (J_45 : MJ) : Prop :=
  (vp_in s_43 6 ∧ ∀ I_47 : MI, I_47 = sI I_44 b 15 s_43.toNatClampNeg s_42 → f_X3_indexOf (-6 : Int32) I_47 J_45 (fun (v_50 : Int32) (I_48 : MI) (J_49 : MJ) => (vp_in (I_48 b 0 9) 4 ∧ (vp_in v_50 6 ∧ ∀ I_53 : MI, I_53 = sI I_48 b 15 v_50.toNatClampNeg ((I_48 b 13 (I_48 b 0 9).toNatClampNeg) - (1 : Int32)) → f_X3_value b I_53 J_49 (fun (v_56 : Int32) (I_54 : MI) (J_55 : MJ) => Q v_56 I_54 J_55)))))
def f_X1_rankOf (b : Nat) (x1 : Int32) (x2 : Int32) (I : MI) (J : MJ) (Q : Int32 → MI → MJ → Prop) : Prop :=
  f_X1_wordOf b (I b 0 9) x1 I J (fun (v_3 : Int64) (I_1 : MI) (J_2 : MJ) => f_X6_length v_3 I_1 J_2 (fun (v_6 : Int32) (I_4 : MI) (J_5 : MJ) => f_X1_freeTiles b x2 I_4 J_5 (fun (v_9 : Int32) (I_7 : MI) (J_8 : MJ) => ∀ x6_10 : Int32, x6_10 = (v_9 - v_6) → f_X3_indexOf (-1 : Int32) I_7 J_8 (fun (v_13 : Int32) (I_11 : MI) (J_12 : MJ) => f_X1_pointsFor b v_3 x2 I_11 J_12 (fun (v_16 : Int32) (I_14 : MI) (J_15 : MJ) => (vp_in v_13 6 ∧ ∀ I_18 : MI, I_18 = sI I_14 b 15 v_13.toNatClampNeg v_16 → f_X3_indexOf (-2 : Int32) I_18 J_15 (fun (v_21 : Int32) (I_19 : MI) (J_20 : MJ) => (vp_in v_21 6 ∧ ∀ I_23 : MI, I_23 = sI I_19 b 15 v_21.toNatClampNeg v_6 → f_X3_indexOf (-3 : Int32) I_23 J_20 (fun (v_26 : Int32) (I_24 : MI) (J_25 : MJ) => (vp_in x2 6 ∧ f_X4_rhymeOf b v_3 (J_25 b 10 x2.toNatClampNeg) I_24 J_25 (fun (v_30 : Int32) (I_28 : MI) (J_29 : MJ) => (vp_in v_26 6 ∧ ∀ I_32 : MI, I_32 = sI I_28 b 15 v_26.toNatClampNeg v_30 → f_X3_indexOf (-4 : Int32) I_32 J_29 (fun (v_35 : Int32) (I_33 : MI) (J_34 : MJ) => (vp_in v_35 6 ∧ ∀ I_37 : MI, I_37 = sI I_33 b 15 v_35.toNatClampNeg x6_10 → f_X3_indexOf (-5 : Int32) I_37 J_34 (fun (v_40 : Int32) (I_38 : MI) (J_39 : MJ) => ((x6_10 = (0 : Int32) → f_X1_rankOf_J108 b Q (1 : Int32) v_40 I_38 J_39) ∧ (¬ x6_10 = (0 : Int32) → f_X1_rankOf_J108 b Q (0 : Int32) v_40 I_38 J_39)))))))))))))))))
set_option maxRecDepth 100000 in
set_option maxHeartbeats 4000000 in
theorem c_X1_rankOf {l : Launch} {E : EV} {ps : List (Nat × Nat)} {b : Nat} (hB : b < 11) (hM : ∀ r, r < 16 → (b, r) ∈ ps) {x1 : Int32} {x2 : Int32} {I : MI} {J : MJ} {Q : Int32 → MI → MJ → Prop} (hf : f_X1_rankOf b x1 x2 I J Q) : KI l yX1_rankOf wsX1_rankOf rmX1_rankOf E ps [.ref (eA E b 0), .int x1, .int x2] I J Q := by
  refine K_ofI (cc := cX1_rankOf) (maxL := 7) (ty := .int) (by decide +kernel) rfl (Nat.le_of_ble_eq_true rfl) (fun p e s m args below meth c Qm hret S hK hX => ?_)
  have hA : ∀ q, s.heap.size ≤ q → AA E ps s.heap.size q := fun _ h => Or.inr h
  have k1 := S.2.2.2.2 (.fieldLink RX1 62 "RhymeRoofs$Game" "turn" "I") (by decide +kernel)
  have iX1 : ∀ w ∈ wsX10, w ∈ wsX1_rankOf := fun _ h => List.mem_cons_of_mem _ (List.mem_append_left _ (List.mem_append_left _ (List.mem_append_right _ h)))
  have k2 := S.2.2.2.2 (.fieldLink RX1 46 "RhymeRoofs$Game" "facts" "[I") (by decide +kernel)
  have k3 := S.2.2.2.2 (.fieldLink RX1 12 "RhymeRoofs$Game" "rules" "LRhymeRoofs$Rules;") (by decide +kernel)
  have k4 := S.2.2.2.2 (.fieldLink RX1 28 "RhymeRoofs$Game" "lastOn" "[J") (by decide +kernel)
  have k5 := S.2.2.2.2 (.fieldLink RX1 38 "RhymeRoofs$Game" "handSize" "[I") (by decide +kernel)
  have k6 := S.2.2.2.2 (.fieldLink RX1 152 "RhymeRoofs$Rules" "rank" "LRhymeRoofs$Rank;") (by decide +kernel)
  have iX4 : ∀ w ∈ wsX40, w ∈ wsX1_rankOf := fun _ h => List.mem_cons_of_mem _ (List.mem_append_left _ (List.mem_append_right _ h))
  have jn108 : ∀ (s_42 : Int32) (s_43 : Int32) (I_44 : MI) (J_45 : MJ), f_X1_rankOf_J108 b Q s_42 s_43 I_44 J_45 → Wj p l e (rmX1_rankOf) s m args below meth c Qm E ps 7 I_44 J_45 108 [(0, .ref (eA E b 0))] [.int s_42, .int s_43, .ref (eA E b 15)] := by
    intro s_42 s_43 I_44 J_45 hf H locs ls hP hD hS hl
    unfold f_X1_rankOf_J108 at hf
    obtain ⟨h_46, hf⟩ := hf
    refine nm_o hf (fun I_47 eI_47 hf => ?_)
    refine R_iast S.1 S.2.1 hK hP hD hS (hM 15 (by decide)) (IAg15 E hB) h_46 dX1_rankOf_108 eI_47 (fun H locs hP hD hS => ?_)
    refine lv_aload_n S.1 S.2.1 dX1_rankOf_109 rfl (lv_at hl 0 rfl) ?_
    refine gfX1_12 S iX1 hK hP hB (hM 0 (by decide)) k2 dX1_rankOf_110 ?_
    refine lv_bipush (v := (-6)) S.1 S.2.1 dX1_rankOf_113 rfl ?_
    refine R_cSi (As := [.int (-6 : Int32)]) (rest := [.ref (eA E b 15)]) S (c_X3_indexOf   hf) gX1_rankOf_X3_indexOf rfl yk_X3_indexOf ⟨⟨Nat.le_of_ble_eq_true rfl, Nat.le_of_ble_eq_true rfl⟩, rfl, rfl⟩ hK hP hD hS hX hA rfl hl.1 rfl (Nat.le_of_ble_eq_true rfl) ⟨Nat.zero_le _, Nat.zero_le _⟩ dX1_rankOf_115 (fun v_50 I_48 J_49 H locs hf hP hD hS => ?_)
    refine lv_aload_n S.1 S.2.1 dX1_rankOf_118 rfl (lv_at hl 0 rfl) ?_
    refine gfX1_7 S iX1 hK hP hB (hM 0 (by decide)) k5 dX1_rankOf_119 ?_
    refine lv_aload_n S.1 S.2.1 dX1_rankOf_122 rfl (lv_at hl 0 rfl) ?_
    refine gfX1_9 S iX1 hK hP hB (hM 0 (by decide)) k1 dX1_rankOf_123 ?_
    obtain ⟨h_51, hf⟩ := hf
    refine R_iald S.1 S.2.1 hK hP (hM 13 (by decide)) (IAg13 E hB) h_51 dX1_rankOf_126 ?_
    refine lv_iconst (v := 1) S.1 S.2.1 dX1_rankOf_127 rfl ?_
    refine lv_isub S.1 S.2.1 dX1_rankOf_128 ?_
    obtain ⟨h_52, hf⟩ := hf
    refine nm_o hf (fun I_53 eI_53 hf => ?_)
    refine R_iast S.1 S.2.1 hK hP hD hS (hM 15 (by decide)) (IAg15 E hB) h_52 dX1_rankOf_129 eI_53 (fun H locs hP hD hS => ?_)
    refine lv_aload_n S.1 S.2.1 dX1_rankOf_130 rfl (lv_at hl 0 rfl) ?_
    refine gfX1_0 S iX1 hK hP hB (hM 0 (by decide)) k3 dX1_rankOf_131 ?_
    refine gfX4_2 S iX4 hK hP hB (hM 1 (by decide)) k6 dX1_rankOf_134 ?_
    refine lv_aload_n S.1 S.2.1 dX1_rankOf_137 rfl (lv_at hl 0 rfl) ?_
    refine gfX1_12 S iX1 hK hP hB (hM 0 (by decide)) k2 dX1_rankOf_138 ?_
    refine R_cVi (As := [.ref (eA E b 15)]) (rest := []) S (c_X3_value (hB := hB) (hM := hM)  hf) gX1_rankOf_X3_value rfl yk_X3_value ⟨⟨Nat.le_of_ble_eq_true rfl, Nat.le_of_ble_eq_true rfl⟩, rfl, rfl⟩ hK hP hD hS hX hA (hM 2 (by decide)) (cF_g E hB _ _ 2) rfl rfl hl.1 rfl (Nat.le_of_ble_eq_true rfl) ⟨Nat.zero_le _, Nat.zero_le _⟩ dX1_rankOf_141 (fun v_56 I_54 J_55 H locs hf hP hD hS => ?_)
    exact hret hf rfl hP hD hS dX1_rankOf_144
  intro H locs ls hP hD hS hl
  unfold f_X1_rankOf at hf
  refine lv_aload_n S.1 S.2.1 dX1_rankOf_0 rfl (lv_at hl 0 rfl) ?_
  refine lv_aload_n S.1 S.2.1 dX1_rankOf_1 rfl (lv_at hl 0 rfl) ?_
  refine gfX1_9 S iX1 hK hP hB (hM 0 (by decide)) k1 dX1_rankOf_2 ?_
  refine lv_iload_n S.1 S.2.1 dX1_rankOf_5 rfl (lv_at hl 1 rfl) ?_
  refine R_cVl (As := [.int (I b 0 9), .int x1]) (rest := []) S (c_X1_wordOf (hB := hB) (hM := hM)  hf) gX1_rankOf_X1_wordOf rfl yk_X1_wordOf ⟨⟨Nat.le_of_ble_eq_true rfl, Nat.le_of_ble_eq_true rfl⟩, rfl, rfl⟩ hK hP hD hS hX hA (hM 0 (by decide)) (cF_g E hB _ _ 0) rfl rfl hl.1 rfl (Nat.le_of_ble_eq_true rfl) ⟨Nat.zero_le _, Nat.zero_le _⟩ dX1_rankOf_6 (fun v_3 I_1 J_2 H locs hf hP hD hS => ?_)
  refine lv_lstore_n (lv' := [(3, .long v_3), (0, .ref (eA E b 0)), (1, .int x1), (2, .int x2)]) S.1 S.2.1 dX1_rankOf_9 rfl hl (by decide) rfl (fun ls hl => ?_)
  refine lv_lload_n S.1 S.2.1 dX1_rankOf_10 rfl (lv_at hl 0 rfl) ?_
  refine R_cSi (As := [.long v_3]) (rest := []) S (c_X6_length   hf) gX1_rankOf_X6_length rfl yk_X6_length ⟨⟨Nat.le_of_ble_eq_true rfl, Nat.le_of_ble_eq_true rfl⟩, rfl, rfl⟩ hK hP hD hS hX hA rfl hl.1 rfl (Nat.le_of_ble_eq_true rfl) ⟨Nat.zero_le _, Nat.zero_le _⟩ dX1_rankOf_11 (fun v_6 I_4 J_5 H locs hf hP hD hS => ?_)
  refine lv_istore (lv' := [(5, .int v_6), (3, .long v_3), (0, .ref (eA E b 0)), (1, .int x1), (2, .int x2)]) S.1 S.2.1 dX1_rankOf_14 hl (by decide) rfl (fun ls hl => ?_)
  refine lv_aload_n S.1 S.2.1 dX1_rankOf_16 rfl (lv_at hl 2 rfl) ?_
  refine lv_iload_n S.1 S.2.1 dX1_rankOf_17 rfl (lv_at hl 4 rfl) ?_
  refine R_cVi (As := [.int x2]) (rest := []) S (c_X1_freeTiles (hB := hB) (hM := hM)  hf) gX1_rankOf_X1_freeTiles rfl yk_X1_freeTiles ⟨⟨Nat.le_of_ble_eq_true rfl, Nat.le_of_ble_eq_true rfl⟩, rfl, rfl⟩ hK hP hD hS hX hA (hM 0 (by decide)) (cF_g E hB _ _ 0) rfl rfl hl.1 rfl (Nat.le_of_ble_eq_true rfl) ⟨Nat.zero_le _, Nat.zero_le _⟩ dX1_rankOf_18 (fun v_9 I_7 J_8 H locs hf hP hD hS => ?_)
  refine lv_iload S.1 S.2.1 dX1_rankOf_21 (lv_at hl 0 rfl) ?_
  refine lv_isub S.1 S.2.1 dX1_rankOf_23 ?_
  refine lv_topi (fun x6_10 ex6_10 => ?_)
  have hf := hf x6_10 ex6_10
  refine lv_istore (lv' := [(6, .int x6_10), (5, .int v_6), (3, .long v_3), (0, .ref (eA E b 0)), (1, .int x1), (2, .int x2)]) S.1 S.2.1 dX1_rankOf_24 hl (by decide) rfl (fun ls hl => ?_)
  refine lv_aload_n S.1 S.2.1 dX1_rankOf_26 rfl (lv_at hl 3 rfl) ?_
  refine gfX1_12 S iX1 hK hP hB (hM 0 (by decide)) k2 dX1_rankOf_27 ?_
  refine lv_iconst (v := (-1)) S.1 S.2.1 dX1_rankOf_30 rfl ?_
  refine R_cSi (As := [.int (-1 : Int32)]) (rest := [.ref (eA E b 15)]) S (c_X3_indexOf   hf) gX1_rankOf_X3_indexOf rfl yk_X3_indexOf ⟨⟨Nat.le_of_ble_eq_true rfl, Nat.le_of_ble_eq_true rfl⟩, rfl, rfl⟩ hK hP hD hS hX hA rfl hl.1 rfl (Nat.le_of_ble_eq_true rfl) ⟨Nat.zero_le _, Nat.zero_le _⟩ dX1_rankOf_31 (fun v_13 I_11 J_12 H locs hf hP hD hS => ?_)
  refine lv_aload_n S.1 S.2.1 dX1_rankOf_34 rfl (lv_at hl 3 rfl) ?_
  refine lv_lload_n S.1 S.2.1 dX1_rankOf_35 rfl (lv_at hl 2 rfl) ?_
  refine lv_iload_n S.1 S.2.1 dX1_rankOf_36 rfl (lv_at hl 5 rfl) ?_
  refine R_cVi (As := [.long v_3, .int x2]) (rest := [.int v_13, .ref (eA E b 15)]) S (c_X1_pointsFor (hB := hB) (hM := hM)  hf) gX1_rankOf_X1_pointsFor rfl yk_X1_pointsFor ⟨⟨Nat.le_of_ble_eq_true rfl, Nat.le_of_ble_eq_true rfl⟩, rfl, rfl⟩ hK hP hD hS hX hA (hM 0 (by decide)) (cF_g E hB _ _ 0) rfl rfl hl.1 rfl (Nat.le_of_ble_eq_true rfl) ⟨Nat.zero_le _, Nat.zero_le _⟩ dX1_rankOf_37 (fun v_16 I_14 J_15 H locs hf hP hD hS => ?_)
  obtain ⟨h_17, hf⟩ := hf
  refine nm_o hf (fun I_18 eI_18 hf => ?_)
  refine R_iast S.1 S.2.1 hK hP hD hS (hM 15 (by decide)) (IAg15 E hB) h_17 dX1_rankOf_40 eI_18 (fun H locs hP hD hS => ?_)
  refine lv_aload_n S.1 S.2.1 dX1_rankOf_41 rfl (lv_at hl 3 rfl) ?_
  refine gfX1_12 S iX1 hK hP hB (hM 0 (by decide)) k2 dX1_rankOf_42 ?_
  refine lv_bipush (v := (-2)) S.1 S.2.1 dX1_rankOf_45 rfl ?_
  refine R_cSi (As := [.int (-2 : Int32)]) (rest := [.ref (eA E b 15)]) S (c_X3_indexOf   hf) gX1_rankOf_X3_indexOf rfl yk_X3_indexOf ⟨⟨Nat.le_of_ble_eq_true rfl, Nat.le_of_ble_eq_true rfl⟩, rfl, rfl⟩ hK hP hD hS hX hA rfl hl.1 rfl (Nat.le_of_ble_eq_true rfl) ⟨Nat.zero_le _, Nat.zero_le _⟩ dX1_rankOf_47 (fun v_21 I_19 J_20 H locs hf hP hD hS => ?_)
  refine lv_iload S.1 S.2.1 dX1_rankOf_50 (lv_at hl 1 rfl) ?_
  obtain ⟨h_22, hf⟩ := hf
  refine nm_o hf (fun I_23 eI_23 hf => ?_)
  refine R_iast S.1 S.2.1 hK hP hD hS (hM 15 (by decide)) (IAg15 E hB) h_22 dX1_rankOf_52 eI_23 (fun H locs hP hD hS => ?_)
  refine lv_aload_n S.1 S.2.1 dX1_rankOf_53 rfl (lv_at hl 3 rfl) ?_
  refine gfX1_12 S iX1 hK hP hB (hM 0 (by decide)) k2 dX1_rankOf_54 ?_
  refine lv_bipush (v := (-3)) S.1 S.2.1 dX1_rankOf_57 rfl ?_
  refine R_cSi (As := [.int (-3 : Int32)]) (rest := [.ref (eA E b 15)]) S (c_X3_indexOf   hf) gX1_rankOf_X3_indexOf rfl yk_X3_indexOf ⟨⟨Nat.le_of_ble_eq_true rfl, Nat.le_of_ble_eq_true rfl⟩, rfl, rfl⟩ hK hP hD hS hX hA rfl hl.1 rfl (Nat.le_of_ble_eq_true rfl) ⟨Nat.zero_le _, Nat.zero_le _⟩ dX1_rankOf_59 (fun v_26 I_24 J_25 H locs hf hP hD hS => ?_)
  refine lv_aload_n S.1 S.2.1 dX1_rankOf_62 rfl (lv_at hl 3 rfl) ?_
  refine gfX1_0 S iX1 hK hP hB (hM 0 (by decide)) k3 dX1_rankOf_63 ?_
  refine lv_lload_n S.1 S.2.1 dX1_rankOf_66 rfl (lv_at hl 2 rfl) ?_
  refine lv_aload_n S.1 S.2.1 dX1_rankOf_67 rfl (lv_at hl 3 rfl) ?_
  refine gfX1_4 S iX1 hK hP hB (hM 0 (by decide)) k4 dX1_rankOf_68 ?_
  refine lv_iload_n S.1 S.2.1 dX1_rankOf_71 rfl (lv_at hl 5 rfl) ?_
  obtain ⟨h_27, hf⟩ := hf
  refine R_lald S.1 S.2.1 hK hP (hM 10 (by decide)) (LAg10 E hB) h_27 dX1_rankOf_72 ?_
  refine R_cVi (As := [.long v_3, .long (J_25 b 10 x2.toNatClampNeg)]) (rest := [.int v_26, .ref (eA E b 15)]) S (c_X4_rhymeOf (hB := hB) (hM := hM)  hf) gX1_rankOf_X4_rhymeOf rfl yk_X4_rhymeOf ⟨⟨Nat.le_of_ble_eq_true rfl, Nat.le_of_ble_eq_true rfl⟩, rfl, rfl⟩ hK hP hD hS hX hA (hM 1 (by decide)) (cF_g E hB _ _ 1) rfl rfl hl.1 rfl (Nat.le_of_ble_eq_true rfl) ⟨Nat.zero_le _, Nat.zero_le _⟩ dX1_rankOf_73 (fun v_30 I_28 J_29 H locs hf hP hD hS => ?_)
  obtain ⟨h_31, hf⟩ := hf
  refine nm_o hf (fun I_32 eI_32 hf => ?_)
  refine R_iast S.1 S.2.1 hK hP hD hS (hM 15 (by decide)) (IAg15 E hB) h_31 dX1_rankOf_76 eI_32 (fun H locs hP hD hS => ?_)
  refine lv_aload_n S.1 S.2.1 dX1_rankOf_77 rfl (lv_at hl 3 rfl) ?_
  refine gfX1_12 S iX1 hK hP hB (hM 0 (by decide)) k2 dX1_rankOf_78 ?_
  refine lv_bipush (v := (-4)) S.1 S.2.1 dX1_rankOf_81 rfl ?_
  refine R_cSi (As := [.int (-4 : Int32)]) (rest := [.ref (eA E b 15)]) S (c_X3_indexOf   hf) gX1_rankOf_X3_indexOf rfl yk_X3_indexOf ⟨⟨Nat.le_of_ble_eq_true rfl, Nat.le_of_ble_eq_true rfl⟩, rfl, rfl⟩ hK hP hD hS hX hA rfl hl.1 rfl (Nat.le_of_ble_eq_true rfl) ⟨Nat.zero_le _, Nat.zero_le _⟩ dX1_rankOf_83 (fun v_35 I_33 J_34 H locs hf hP hD hS => ?_)
  refine lv_iload S.1 S.2.1 dX1_rankOf_86 (lv_at hl 0 rfl) ?_
  obtain ⟨h_36, hf⟩ := hf
  refine nm_o hf (fun I_37 eI_37 hf => ?_)
  refine R_iast S.1 S.2.1 hK hP hD hS (hM 15 (by decide)) (IAg15 E hB) h_36 dX1_rankOf_88 eI_37 (fun H locs hP hD hS => ?_)
  refine lv_aload_n S.1 S.2.1 dX1_rankOf_89 rfl (lv_at hl 3 rfl) ?_
  refine gfX1_12 S iX1 hK hP hB (hM 0 (by decide)) k2 dX1_rankOf_90 ?_
  refine lv_bipush (v := (-5)) S.1 S.2.1 dX1_rankOf_93 rfl ?_
  refine R_cSi (As := [.int (-5 : Int32)]) (rest := [.ref (eA E b 15)]) S (c_X3_indexOf   hf) gX1_rankOf_X3_indexOf rfl yk_X3_indexOf ⟨⟨Nat.le_of_ble_eq_true rfl, Nat.le_of_ble_eq_true rfl⟩, rfl, rfl⟩ hK hP hD hS hX hA rfl hl.1 rfl (Nat.le_of_ble_eq_true rfl) ⟨Nat.zero_le _, Nat.zero_le _⟩ dX1_rankOf_95 (fun v_40 I_38 J_39 H locs hf hP hD hS => ?_)
  refine lv_iload S.1 S.2.1 dX1_rankOf_98 (lv_at hl 0 rfl) ?_
  refine lv_if_ne (tgt := 107) S.1 S.2.1 dX1_rankOf_100 (by decide) (fun h_41 => ?_) (fun h_41 => ?_)
  · have hf := hf.2 h_41
    refine lv_iconst (v := 0) S.1 S.2.1 dX1_rankOf_107 rfl ?_
    exact jn108 _ _ _ _ hf _ _ _ hP hD hS (lv_sub hl [3] rfl)
  · have hf := hf.1 h_41
    refine lv_iconst (v := 1) S.1 S.2.1 dX1_rankOf_103 rfl ?_
    refine lv_goto (tgt := 108) S.1 S.2.1 dX1_rankOf_104 (by decide) ?_
    exact jn108 _ _ _ _ hf _ _ _ hP hD hS (lv_sub hl [3] rfl)
abbrev rmX1_bestPlay : Room := { frames := 3, cells := 0, slots := 0, locals := 80 }
theorem yk_X1_bestPlay : yOk yX1_bestPlay RX1 0 := by unfold yOk; decide +kernel
def f_X1_bestPlay_J64 (b : Nat) (K81 : Int32 → Int32 → MI → MJ → Prop) (rec22 : Int32 → Int32 → Int32 → MI → MJ → Prop) (x3_10 : Int32) (x4_24 : Int32) (x5_25 : Int32) (I_26 : MI) (J_27 : MJ) : Prop :=
  ∀ x1_28 : Int32, x1_28 = (((10 : Int32) * x3_10) + x4_24) → ∀ x4_29 : Int32, x4_29 = x4_24 + (1 : Int32) → rec22 x1_28 x5_25 x4_29 I_26 J_27
def f_X1_bestPlay_B22 (b : Nat) (x3_10 : Int32) (K81 : Int32 → Int32 → MI → MJ → Prop) (rec22 : Int32 → Int32 → Int32 → MI → MJ → Prop) (x1_8 : Int32) (x2_9 : Int32) (x4_11 : Int32) (I_12 : MI) (J_13 : MJ) : Prop :=
  (((I_12 b 1 3) ≤ x4_11 → K81 x1_8 x2_9 I_12 J_13) ∧ (¬ (I_12 b 1 3) ≤ x4_11 → f_X1_obstacleNow b x3_10 x4_11 I_12 J_13 (fun (v_17 : Int32) (I_15 : MI) (J_16 : MJ) => ((v_17 = (0 : Int32) → f_X1_rankOf b x3_10 x4_11 I_15 J_16 (fun (v_22 : Int32) (I_20 : MI) (J_21 : MJ) => ((x1_8 = (-1 : Int32) → f_X1_bestPlay_J64 b K81 rec22 x3_10 x4_11 v_22 I_20 J_21) ∧ (¬ x1_8 = (-1 : Int32) → ((v_22 ≤ x2_9 → ∀ x4_31 : Int32, x4_31 = x4_11 + (1 : Int32) → rec22 x1_8 x2_9 x4_31 I_20 J_21) ∧ (¬ v_22 ≤ x2_9 → f_X1_bestPlay_J64 b K81 rec22 x3_10 x4_11 v_22 I_20 J_21)))))) ∧ (¬ v_17 = (0 : Int32) → ∀ x4_19 : Int32, x4_19 = x4_11 + (1 : Int32) → rec22 x1_8 x2_9 x4_19 I_15 J_16)))))
def f_X1_bestPlay_L22 (b : Nat) (x3_10 : Int32) (K81 : Int32 → Int32 → MI → MJ → Prop) : Nat → Int32 → Int32 → Int32 → MI → MJ → Prop
  | 0, _, _, _, _, _ => False
  | n + 1, x1_8, x2_9, x4_11, I_12, J_13 => f_X1_bestPlay_B22 b x3_10 K81 (f_X1_bestPlay_L22 b x3_10 K81 n) x1_8 x2_9 x4_11 I_12 J_13
def f_X1_bestPlay_B6 (b : Nat) (K87 : Int32 → MI → MJ → Prop) (rec6 : Int32 → Int32 → Int32 → MI → MJ → Prop) (x1_1 : Int32) (x2_2 : Int32) (x3_3 : Int32) (I_4 : MI) (J_5 : MJ) : Prop :=
  (vp_in (I_4 b 0 9) 4 ∧ (((I_4 b 13 (I_4 b 0 9).toNatClampNeg) ≤ x3_3 → K87 x1_1 I_4 J_5) ∧ (¬ (I_4 b 13 (I_4 b 0 9).toNatClampNeg) ≤ x3_3 → ∃ n : Nat, f_X1_bestPlay_L22 b x3_3 (fun (x1_32 : Int32) (x2_33 : Int32) (I_34 : MI) (J_35 : MJ) => ∀ x3_36 : Int32, x3_36 = x3_3 + (1 : Int32) → rec6 x1_32 x2_33 x3_36 I_34 J_35) n x1_1 x2_2 (0 : Int32) I_4 J_5)))
def f_X1_bestPlay_L6 (b : Nat) (K87 : Int32 → MI → MJ → Prop) : Nat → Int32 → Int32 → Int32 → MI → MJ → Prop
  | 0, _, _, _, _, _ => False
  | n + 1, x1_1, x2_2, x3_3, I_4, J_5 => f_X1_bestPlay_B6 b K87 (f_X1_bestPlay_L6 b K87 n) x1_1 x2_2 x3_3 I_4 J_5
def f_X1_bestPlay (b : Nat) (I : MI) (J : MJ) (Q : Int32 → MI → MJ → Prop) : Prop :=
  ∃ n : Nat, f_X1_bestPlay_L6 b (fun (x1_38 : Int32) (I_39 : MI) (J_40 : MJ) => Q x1_38 I_39 J_40) n (-1 : Int32) (0 : Int32) (0 : Int32) I J
set_option maxRecDepth 100000 in
set_option maxHeartbeats 4000000 in
theorem c_X1_bestPlay {l : Launch} {E : EV} {ps : List (Nat × Nat)} {b : Nat} (hB : b < 11) (hM : ∀ r, r < 16 → (b, r) ∈ ps) {I : MI} {J : MJ} {Q : Int32 → MI → MJ → Prop} (hf : f_X1_bestPlay b I J Q) : KI l yX1_bestPlay wsX1_bestPlay rmX1_bestPlay E ps [.ref (eA E b 0)] I J Q := by
  refine K_ofI (cc := cX1_bestPlay) (maxL := 6) (ty := .int) (by decide +kernel) rfl (Nat.le_of_ble_eq_true rfl) (fun p e s m args below meth c Qm hret S hK hX => ?_)
  have hA : ∀ q, s.heap.size ≤ q → AA E ps s.heap.size q := fun _ h => Or.inr h
  have k1 := S.2.2.2.2 (.fieldLink RX1 38 "RhymeRoofs$Game" "handSize" "[I") (by decide +kernel)
  have iX1 : ∀ w ∈ wsX10, w ∈ wsX1_bestPlay := fun _ h => List.mem_cons_of_mem _ (List.mem_append_left _ (List.mem_append_left _ (List.mem_append_right _ h)))
  have k2 := S.2.2.2.2 (.fieldLink RX1 62 "RhymeRoofs$Game" "turn" "I") (by decide +kernel)
  have k3 := S.2.2.2.2 (.fieldLink RX1 12 "RhymeRoofs$Game" "rules" "LRhymeRoofs$Rules;") (by decide +kernel)
  have k4 := S.2.2.2.2 (.fieldLink RX1 83 "RhymeRoofs$Rules" "rows" "I") (by decide +kernel)
  have iX4 : ∀ w ∈ wsX40, w ∈ wsX1_bestPlay := fun _ h => List.mem_cons_of_mem _ (List.mem_append_left _ (List.mem_append_right _ h))
  intro H locs ls hP hD hS hl
  unfold f_X1_bestPlay at hf
  refine lv_iconst (v := (-1)) S.1 S.2.1 dX1_bestPlay_0 rfl ?_
  refine lv_istore_n (lv' := [(1, .int (-1 : Int32)), (0, .ref (eA E b 0))]) S.1 S.2.1 dX1_bestPlay_1 rfl hl (by decide) rfl (fun ls hl => ?_)
  refine lv_iconst (v := 0) S.1 S.2.1 dX1_bestPlay_2 rfl ?_
  refine lv_istore_n (lv' := [(2, .int (0 : Int32)), (1, .int (-1 : Int32)), (0, .ref (eA E b 0))]) S.1 S.2.1 dX1_bestPlay_3 rfl hl (by decide) rfl (fun ls hl => ?_)
  refine lv_iconst (v := 0) S.1 S.2.1 dX1_bestPlay_4 rfl ?_
  refine lv_istore_n (lv' := [(3, .int (0 : Int32)), (2, .int (0 : Int32)), (1, .int (-1 : Int32)), (0, .ref (eA E b 0))]) S.1 S.2.1 dX1_bestPlay_5 rfl hl (by decide) rfl (fun ls hl => ?_)
  obtain ⟨n_41, hf⟩ := hf
  have L6 : ∀ (K87 : Int32 → MI → MJ → Prop), (∀ (x1_38 : Int32) (I_39 : MI) (J_40 : MJ), K87 x1_38 I_39 J_40 → Wj p l e (rmX1_bestPlay) s m args below meth c Qm E ps 6 I_39 J_40 87 [(1, .int x1_38)] []) → ∀ (n : Nat) (x1_1 : Int32) (x2_2 : Int32) (x3_3 : Int32) (I_4 : MI) (J_5 : MJ), f_X1_bestPlay_L6 b K87 n x1_1 x2_2 x3_3 I_4 J_5 → Wj p l e (rmX1_bestPlay) s m args below meth c Qm E ps 6 I_4 J_5 6 [(0, .ref (eA E b 0)), (1, .int x1_1), (2, .int x2_2), (3, .int x3_3)] [] := by
    intro K87 kx87 n
    induction n with
    | zero => intro x1_1 x2_2 x3_3 I_4 J_5 hf; exact hf.elim
    | succ n ih6 =>
      intro x1_1 x2_2 x3_3 I_4 J_5 hf
      have hf : f_X1_bestPlay_B6 b K87 (f_X1_bestPlay_L6 b K87 n) x1_1 x2_2 x3_3 I_4 J_5 := hf
      intro H locs ls hP hD hS hl
      unfold f_X1_bestPlay_B6 at hf
      refine lv_iload_n S.1 S.2.1 dX1_bestPlay_6 rfl (lv_at hl 3 rfl) ?_
      refine lv_aload_n S.1 S.2.1 dX1_bestPlay_7 rfl (lv_at hl 0 rfl) ?_
      refine gfX1_7 S iX1 hK hP hB (hM 0 (by decide)) k1 dX1_bestPlay_8 ?_
      refine lv_aload_n S.1 S.2.1 dX1_bestPlay_11 rfl (lv_at hl 0 rfl) ?_
      refine gfX1_9 S iX1 hK hP hB (hM 0 (by decide)) k2 dX1_bestPlay_12 ?_
      obtain ⟨h_6, hf⟩ := hf
      refine R_iald S.1 S.2.1 hK hP (hM 13 (by decide)) (IAg13 E hB) h_6 dX1_bestPlay_15 ?_
      refine lv_icmp_ge (tgt := 87) S.1 S.2.1 dX1_bestPlay_16 (by decide) (fun h_7 => ?_) (fun h_7 => ?_)
      · have hf := hf.1 h_7
        exact kx87 _ _ _ hf _ _ _ hP hD hS (lv_sub hl [1] rfl)
      · have hf := hf.2 h_7
        refine lv_iconst (v := 0) S.1 S.2.1 dX1_bestPlay_19 rfl ?_
        refine lv_istore (lv' := [(4, .int (0 : Int32)), (0, .ref (eA E b 0)), (1, .int x1_1), (2, .int x2_2), (3, .int x3_3)]) S.1 S.2.1 dX1_bestPlay_20 hl (by decide) rfl (fun ls hl => ?_)
        obtain ⟨n_37, hf⟩ := hf
        have L22 : ∀ (x3_10 : Int32), ∀ (K81 : Int32 → Int32 → MI → MJ → Prop), (∀ (x1_32 : Int32) (x2_33 : Int32) (I_34 : MI) (J_35 : MJ), K81 x1_32 x2_33 I_34 J_35 → Wj p l e (rmX1_bestPlay) s m args below meth c Qm E ps 6 I_34 J_35 81 [(0, .ref (eA E b 0)), (1, .int x1_32), (2, .int x2_33), (3, .int x3_10)] []) → ∀ (n : Nat) (x1_8 : Int32) (x2_9 : Int32) (x4_11 : Int32) (I_12 : MI) (J_13 : MJ), f_X1_bestPlay_L22 b x3_10 K81 n x1_8 x2_9 x4_11 I_12 J_13 → Wj p l e (rmX1_bestPlay) s m args below meth c Qm E ps 6 I_12 J_13 22 [(0, .ref (eA E b 0)), (1, .int x1_8), (2, .int x2_9), (3, .int x3_10), (4, .int x4_11)] [] := by
          intro x3_10 K81 kx81 n
          induction n with
          | zero => intro x1_8 x2_9 x4_11 I_12 J_13 hf; exact hf.elim
          | succ n ih22 =>
            intro x1_8 x2_9 x4_11 I_12 J_13 hf
            have hf : f_X1_bestPlay_B22 b x3_10 K81 (f_X1_bestPlay_L22 b x3_10 K81 n) x1_8 x2_9 x4_11 I_12 J_13 := hf
            have jn64 : ∀ (x4_24 : Int32) (x5_25 : Int32) (I_26 : MI) (J_27 : MJ), f_X1_bestPlay_J64 b K81 (f_X1_bestPlay_L22 b x3_10 K81 n) x3_10 x4_24 x5_25 I_26 J_27 → Wj p l e (rmX1_bestPlay) s m args below meth c Qm E ps 6 I_26 J_27 64 [(0, .ref (eA E b 0)), (3, .int x3_10), (4, .int x4_24), (5, .int x5_25)] [] := by
              intro x4_24 x5_25 I_26 J_27 hf H locs ls hP hD hS hl
              unfold f_X1_bestPlay_J64 at hf
              refine lv_bipush (v := 10) S.1 S.2.1 dX1_bestPlay_64 rfl ?_
              refine lv_iload_n S.1 S.2.1 dX1_bestPlay_66 rfl (lv_at hl 1 rfl) ?_
              refine lv_imul S.1 S.2.1 dX1_bestPlay_67 ?_
              refine lv_iload S.1 S.2.1 dX1_bestPlay_68 (lv_at hl 2 rfl) ?_
              refine lv_iadd S.1 S.2.1 dX1_bestPlay_70 ?_
              refine lv_topi (fun x1_28 ex1_28 => ?_)
              have hf := hf x1_28 ex1_28
              refine lv_istore_n (lv' := [(1, .int x1_28), (0, .ref (eA E b 0)), (3, .int x3_10), (4, .int x4_24), (5, .int x5_25)]) S.1 S.2.1 dX1_bestPlay_71 rfl hl (by decide) rfl (fun ls hl => ?_)
              refine lv_iload S.1 S.2.1 dX1_bestPlay_72 (lv_at hl 4 rfl) ?_
              refine lv_istore_n (lv' := [(2, .int x5_25), (1, .int x1_28), (0, .ref (eA E b 0)), (3, .int x3_10), (4, .int x4_24), (5, .int x5_25)]) S.1 S.2.1 dX1_bestPlay_74 rfl hl (by decide) rfl (fun ls hl => ?_)
              refine nm_o hf (fun x4_29 ex4_29 hf => ?_)
              refine lv_iinc (v := x4_29) (lv' := [(4, .int x4_29), (2, .int x5_25), (1, .int x1_28), (0, .ref (eA E b 0)), (3, .int x3_10), (5, .int x5_25)]) S.1 S.2.1 dX1_bestPlay_75 hl (k := 4) rfl (by rw [ex4_29]; rfl) (by decide) rfl (fun ls hl => ?_)
              refine lv_goto (tgt := 22) S.1 S.2.1 dX1_bestPlay_78 (by decide) ?_
              exact ih22 _ _ _ _ _ hf _ _ _ hP hD hS (lv_sub hl [3, 2, 1, 4, 0] rfl)
            intro H locs ls hP hD hS hl
            unfold f_X1_bestPlay_B22 at hf
            refine lv_iload S.1 S.2.1 dX1_bestPlay_22 (lv_at hl 4 rfl) ?_
            refine lv_aload_n S.1 S.2.1 dX1_bestPlay_24 rfl (lv_at hl 0 rfl) ?_
            refine gfX1_0 S iX1 hK hP hB (hM 0 (by decide)) k3 dX1_bestPlay_25 ?_
            refine gfX4_3 S iX4 hK hP hB (hM 1 (by decide)) k4 dX1_bestPlay_28 ?_
            refine lv_icmp_ge (tgt := 81) S.1 S.2.1 dX1_bestPlay_31 (by decide) (fun h_14 => ?_) (fun h_14 => ?_)
            · have hf := hf.1 h_14
              exact kx81 _ _ _ _ hf _ _ _ hP hD hS (lv_sub hl [0, 1, 2, 3] rfl)
            · have hf := hf.2 h_14
              refine lv_aload_n S.1 S.2.1 dX1_bestPlay_34 rfl (lv_at hl 0 rfl) ?_
              refine lv_iload_n S.1 S.2.1 dX1_bestPlay_35 rfl (lv_at hl 3 rfl) ?_
              refine lv_iload S.1 S.2.1 dX1_bestPlay_36 (lv_at hl 4 rfl) ?_
              refine R_cVi (As := [.int x3_10, .int x4_11]) (rest := []) S (c_X1_obstacleNow (hB := hB) (hM := hM)  hf) gX1_bestPlay_X1_obstacleNow rfl yk_X1_obstacleNow ⟨⟨Nat.le_of_ble_eq_true rfl, Nat.le_of_ble_eq_true rfl⟩, rfl, rfl⟩ hK hP hD hS hX hA (hM 0 (by decide)) (cF_g E hB _ _ 0) rfl rfl hl.1 rfl (Nat.le_of_ble_eq_true rfl) ⟨Nat.zero_le _, Nat.zero_le _⟩ dX1_bestPlay_38 (fun v_17 I_15 J_16 H locs hf hP hD hS => ?_)
              refine lv_if_ne (tgt := 75) S.1 S.2.1 dX1_bestPlay_41 (by decide) (fun h_18 => ?_) (fun h_18 => ?_)
              · have hf := hf.2 h_18
                refine nm_o hf (fun x4_19 ex4_19 hf => ?_)
                refine lv_iinc (v := x4_19) (lv' := [(4, .int x4_19), (0, .ref (eA E b 0)), (1, .int x1_8), (2, .int x2_9), (3, .int x3_10)]) S.1 S.2.1 dX1_bestPlay_75 hl (k := 4) rfl (by rw [ex4_19]; rfl) (by decide) rfl (fun ls hl => ?_)
                refine lv_goto (tgt := 22) S.1 S.2.1 dX1_bestPlay_78 (by decide) ?_
                exact ih22 _ _ _ _ _ hf _ _ _ hP hD hS (lv_sub hl [1, 2, 3, 4, 0] rfl)
              · have hf := hf.1 h_18
                refine lv_aload_n S.1 S.2.1 dX1_bestPlay_44 rfl (lv_at hl 0 rfl) ?_
                refine lv_iload_n S.1 S.2.1 dX1_bestPlay_45 rfl (lv_at hl 3 rfl) ?_
                refine lv_iload S.1 S.2.1 dX1_bestPlay_46 (lv_at hl 4 rfl) ?_
                refine R_cVi (As := [.int x3_10, .int x4_11]) (rest := []) S (c_X1_rankOf (hB := hB) (hM := hM)  hf) gX1_bestPlay_X1_rankOf rfl yk_X1_rankOf ⟨⟨Nat.le_of_ble_eq_true rfl, Nat.le_of_ble_eq_true rfl⟩, rfl, rfl⟩ hK hP hD hS hX hA (hM 0 (by decide)) (cF_g E hB _ _ 0) rfl rfl hl.1 rfl (Nat.le_of_ble_eq_true rfl) ⟨Nat.zero_le _, Nat.zero_le _⟩ dX1_bestPlay_48 (fun v_22 I_20 J_21 H locs hf hP hD hS => ?_)
                refine lv_istore (lv' := [(5, .int v_22), (0, .ref (eA E b 0)), (1, .int x1_8), (2, .int x2_9), (3, .int x3_10), (4, .int x4_11)]) S.1 S.2.1 dX1_bestPlay_51 hl (by decide) rfl (fun ls hl => ?_)
                refine lv_iload_n S.1 S.2.1 dX1_bestPlay_53 rfl (lv_at hl 2 rfl) ?_
                refine lv_iconst (v := (-1)) S.1 S.2.1 dX1_bestPlay_54 rfl ?_
                refine lv_icmp_eq (tgt := 64) S.1 S.2.1 dX1_bestPlay_55 (by decide) (fun h_23 => ?_) (fun h_23 => ?_)
                · have hf := hf.1 h_23
                  exact jn64 _ _ _ _ hf _ _ _ hP hD hS (lv_sub hl [1, 4, 5, 0] rfl)
                · have hf := hf.2 h_23
                  refine lv_iload S.1 S.2.1 dX1_bestPlay_58 (lv_at hl 0 rfl) ?_
                  refine lv_iload_n S.1 S.2.1 dX1_bestPlay_60 rfl (lv_at hl 3 rfl) ?_
                  refine lv_icmp_le (tgt := 75) S.1 S.2.1 dX1_bestPlay_61 (by decide) (fun h_30 => ?_) (fun h_30 => ?_)
                  · have hf := hf.1 h_30
                    refine nm_o hf (fun x4_31 ex4_31 hf => ?_)
                    refine lv_iinc (v := x4_31) (lv' := [(4, .int x4_31), (5, .int v_22), (0, .ref (eA E b 0)), (1, .int x1_8), (2, .int x2_9), (3, .int x3_10)]) S.1 S.2.1 dX1_bestPlay_75 hl (k := 5) rfl (by rw [ex4_31]; rfl) (by decide) rfl (fun ls hl => ?_)
                    refine lv_goto (tgt := 22) S.1 S.2.1 dX1_bestPlay_78 (by decide) ?_
                    exact ih22 _ _ _ _ _ hf _ _ _ hP hD hS (lv_sub hl [2, 3, 4, 5, 0] rfl)
                  · have hf := hf.2 h_30
                    exact jn64 _ _ _ _ hf _ _ _ hP hD hS (lv_sub hl [1, 4, 5, 0] rfl)
        refine L22 _ _ (fun x1_32 x2_33 I_34 J_35 hf H locs ls hP hD hS hl => ?_)  n_37 _ _ _ _ _ hf _ _ _ hP hD hS (lv_sub hl [1, 2, 3, 4, 0] rfl)
        refine nm_o hf (fun x3_36 ex3_36 hf => ?_)
        refine lv_iinc (v := x3_36) (lv' := [(3, .int x3_36), (0, .ref (eA E b 0)), (1, .int x1_32), (2, .int x2_33)]) S.1 S.2.1 dX1_bestPlay_81 hl (k := 3) rfl (by rw [ex3_36]; rfl) (by decide) rfl (fun ls hl => ?_)
        refine lv_goto (tgt := 6) S.1 S.2.1 dX1_bestPlay_84 (by decide) ?_
        exact ih6 _ _ _ _ _ hf _ _ _ hP hD hS (lv_sub hl [1, 2, 3, 0] rfl)
  refine L6 _ (fun x1_38 I_39 J_40 hf H locs ls hP hD hS hl => ?_)  n_41 _ _ _ _ _ hf _ _ _ hP hD hS (lv_sub hl [3, 2, 1, 0] rfl)
  refine lv_iload_n S.1 S.2.1 dX1_bestPlay_87 rfl (lv_at hl 0 rfl) ?_
  exact hret hf rfl hP hD hS dX1_bestPlay_88
