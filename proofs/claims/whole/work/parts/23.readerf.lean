abbrev rmX5_readSum (d : Nat) : Room := { frames := 2 * d + 6, cells := 0, slots := 0, locals := 50 * d + 128 }
theorem yk_X5_readSum : yOk yX5_readSum RX5 1 := by unfold yOk; decide +kernel
abbrev rmX5_readFactor (d : Nat) : Room := { frames := 2 * d + 7, cells := 0, slots := 0, locals := 50 * d + 155 }
theorem yk_X5_readFactor : yOk yX5_readFactor RX5 1 := by unfold yOk; decide +kernel
def f_X5_readFactor (rs : Int32 → MI → MJ → (Int32 → MI → MJ → Prop) → Prop) (x1 : Int32) (I : MI) (J : MJ) (Q : Int32 → MI → MJ → Prop) : Prop :=
  f_X5_peek I J (fun (v_3 : Int32) (I_1 : MI) (J_2 : MJ) => ((v_3 = (40 : Int32) → ((x1 < (4 : Int32) → ∀ I_30 : MI, I_30 = sI I_1 11 4 4 ((I_1 11 4 4) + (1 : Int32)) → rs (x1 + (1 : Int32)) I_30 J_2 (fun (v_33 : Int32) (I_31 : MI) (J_32 : MJ) => ((v_33 = (0 : Int32) → Q (0 : Int32) I_31 J_32) ∧ (¬ v_33 = (0 : Int32) → f_X5_readSign (41 : Int32) I_31 J_32 (fun (v_37 : Int32) (I_35 : MI) (J_36 : MJ) => ((v_37 = (0 : Int32) → Q (0 : Int32) I_35 J_36) ∧ (¬ v_37 = (0 : Int32) → Q (1 : Int32) I_35 J_36))))))) ∧ (¬ x1 < (4 : Int32) → f_X5_fail (-6 : Int32) (I_1 11 4 4) I_1 J_2 (fun (v_41 : Int32) (I_39 : MI) (J_40 : MJ) => (bo v_41 ∧ Q v_41 I_39 J_40))))) ∧ (¬ v_3 = (40 : Int32) → f_X5_isDigit v_3 I_1 J_2 (fun (v_7 : Int32) (I_5 : MI) (J_6 : MJ) => ((v_7 = (0 : Int32) → f_X5_readRun I_5 J_6 (fun (v_11 : Int32) (I_9 : MI) (J_10 : MJ) => ((v_11 = (0 : Int32) → Q (0 : Int32) I_9 J_10) ∧ (¬ v_11 = (0 : Int32) → f_X5_factOfRun I_9 J_10 (fun (v_15 : Int32) (I_13 : MI) (J_14 : MJ) => ((v_15 = (0 : Int32) → f_X5_fail (-2 : Int32) (I_13 11 4 7) I_13 J_14 (fun (v_21 : Int32) (I_19 : MI) (J_20 : MJ) => (bo v_21 ∧ Q v_21 I_19 J_20))) ∧ (¬ v_15 = (0 : Int32) → f_X3_add 10 v_15 I_13 J_14 (fun (I_17 : MI) (J_18 : MJ) => Q (1 : Int32) I_17 J_18)))))))) ∧ (¬ v_7 = (0 : Int32) → f_X5_readNumber (0 : Int32) (9999 : Int32) I_5 J_6 (fun (v_25 : Int32) (I_23 : MI) (J_24 : MJ) => ((v_25 = (0 : Int32) → Q (0 : Int32) I_23 J_24) ∧ (¬ v_25 = (0 : Int32) → f_X3_add 10 (I_23 11 4 6) I_23 J_24 (fun (I_27 : MI) (J_28 : MJ) => Q (1 : Int32) I_27 J_28))))))))))
set_option maxRecDepth 100000 in
set_option maxHeartbeats 4000000 in
theorem c_X5_readFactor {d : Nat} {rs : Int32 → MI → MJ → (Int32 → MI → MJ → Prop) → Prop} {l : Launch} {E : EV} {ps : List (Nat × Nat)} (hrs : ∀ {x1 : Int32} {I : MI} {J : MJ} {Q : Int32 → MI → MJ → Prop}, rs x1 I J Q → KI l yX5_readSum wsX5_readSum (rmX5_readSum d) E ps [.ref (eA E 11 4), .int x1] I J Q) (h11 : ∀ r, r < 11 → (11, r) ∈ ps) (hG : ∀ k r, k < 11 → r < 16 → (k, r) ∈ ps) {x1 : Int32} {I : MI} {J : MJ} {Q : Int32 → MI → MJ → Prop} (hf : f_X5_readFactor rs x1 I J Q) : KI l yX5_readFactor wsX5_readFactor (rmX5_readFactor d) E ps [.ref (eA E 11 4), .int x1] I J Q := by
  refine K_ofI (cc := cX5_readFactor) (maxL := 4) (ty := .boolean) (by decide +kernel) rfl (Nat.le_of_ble_eq_true rfl) (fun p e s m args below meth c Qm hret S hK hX => ?_)
  have hA : ∀ q, s.heap.size ≤ q → AA E ps s.heap.size q := fun _ h => Or.inr h
  have k1 := S.2.2.2.2 (.fieldLink RX5 12 "RhymeRoofs$SetupReader" "game" "LRhymeRoofs$Game;") (by decide +kernel)
  have iX5 : ∀ w ∈ wsX50, w ∈ wsX5_readFactor := fun _ h => List.mem_cons_of_mem _ (List.mem_append_left _ (List.mem_append_left _ (List.mem_append_left _ (List.mem_append_right _ h))))
  have k2 := S.2.2.2.2 (.fieldLink RX5 115 "RhymeRoofs$Game" "rules" "LRhymeRoofs$Rules;") (by decide +kernel)
  have iX1 : ∀ w ∈ wsX10, w ∈ wsX5_readFactor := fun _ h => List.mem_cons_of_mem _ (List.mem_append_left _ (List.mem_append_left _ (List.mem_append_right _ h)))
  have k3 := S.2.2.2.2 (.fieldLink RX5 162 "RhymeRoofs$Rules" "rank" "LRhymeRoofs$Rank;") (by decide +kernel)
  have iX4 : ∀ w ∈ wsX40, w ∈ wsX5_readFactor := fun _ h => List.mem_cons_of_mem _ (List.mem_append_left _ (List.mem_append_right _ h))
  have k4 := S.2.2.2.2 (.fieldLink RX5 85 "RhymeRoofs$SetupReader" "tokenStart" "I") (by decide +kernel)
  have k5 := S.2.2.2.2 (.fieldLink RX5 88 "RhymeRoofs$SetupReader" "number" "I") (by decide +kernel)
  have k6 := S.2.2.2.2 (.fieldLink RX5 41 "RhymeRoofs$SetupReader" "at" "I") (by decide +kernel)
  intro H locs ls hP hD hS hl
  unfold f_X5_readFactor at hf
  refine lv_aload_n S.1 S.2.1 dX5_readFactor_0 rfl (lv_at hl 0 rfl) ?_
  refine R_cVi (As := []) (rest := []) S (c_X5_peek (h11 := h11) (hG := hG)  hf) gX5_readFactor_X5_peek rfl yk_X5_peek ⟨⟨by dsimp only [rmX5_peek, rmX5_readFactor]; omega, by dsimp only [rmX5_peek, rmX5_readFactor]; omega⟩, rfl, rfl⟩ hK hP hD hS hX hA (h11 4 (by decide)) (cF_o E _ _ 4) rfl rfl hl.1 rfl (Nat.le_of_ble_eq_true rfl) ⟨Nat.zero_le _, Nat.zero_le _⟩ dX5_readFactor_1 (fun v_3 I_1 J_2 H locs hf hP hD hS => ?_)
  refine lv_istore_n (lv' := [(2, .int v_3), (0, .ref (eA E 11 4)), (1, .int x1)]) S.1 S.2.1 dX5_readFactor_4 rfl hl (by decide) rfl (fun ls hl => ?_)
  refine lv_iload_n S.1 S.2.1 dX5_readFactor_5 rfl (lv_at hl 0 rfl) ?_
  refine lv_bipush (v := 40) S.1 S.2.1 dX5_readFactor_6 rfl ?_
  refine lv_icmp_ne (tgt := 62) S.1 S.2.1 dX5_readFactor_8 (by decide) (fun h_4 => ?_) (fun h_4 => ?_)
  · have hf := hf.2 h_4
    refine lv_iload_n S.1 S.2.1 dX5_readFactor_62 rfl (lv_at hl 0 rfl) ?_
    refine R_cSi (As := [.int v_3]) (rest := []) S (c_X5_isDigit   hf) gX5_readFactor_X5_isDigit rfl yk_X5_isDigit ⟨⟨by dsimp only [rmX5_isDigit, rmX5_readFactor]; omega, by dsimp only [rmX5_isDigit, rmX5_readFactor]; omega⟩, rfl, rfl⟩ hK hP hD hS hX hA rfl hl.1 rfl (Nat.le_of_ble_eq_true rfl) ⟨Nat.zero_le _, Nat.zero_le _⟩ dX5_readFactor_63 (fun v_7 I_5 J_6 H locs hf hP hD hS => ?_)
    refine lv_if_eq (tgt := 101) S.1 S.2.1 dX5_readFactor_66 (by decide) (fun h_8 => ?_) (fun h_8 => ?_)
    · have hf := hf.1 h_8
      refine lv_aload_n S.1 S.2.1 dX5_readFactor_101 rfl (lv_at hl 1 rfl) ?_
      refine R_cVi (As := []) (rest := []) S (c_X5_readRun (h11 := h11) (hG := hG)  hf) gX5_readFactor_X5_readRun rfl yk_X5_readRun ⟨⟨by dsimp only [rmX5_readRun, rmX5_readFactor]; omega, by dsimp only [rmX5_readRun, rmX5_readFactor]; omega⟩, rfl, rfl⟩ hK hP hD hS hX hA (h11 4 (by decide)) (cF_o E _ _ 4) rfl rfl hl.1 rfl (Nat.le_of_ble_eq_true rfl) ⟨Nat.zero_le _, Nat.zero_le _⟩ dX5_readFactor_102 (fun v_11 I_9 J_10 H locs hf hP hD hS => ?_)
      refine lv_if_ne (tgt := 110) S.1 S.2.1 dX5_readFactor_105 (by decide) (fun h_12 => ?_) (fun h_12 => ?_)
      · have hf := hf.2 h_12
        refine lv_aload_n S.1 S.2.1 dX5_readFactor_110 rfl (lv_at hl 1 rfl) ?_
        refine R_cVi (As := []) (rest := []) S (c_X5_factOfRun (h11 := h11) (hG := hG)  hf) gX5_readFactor_X5_factOfRun rfl yk_X5_factOfRun ⟨⟨by dsimp only [rmX5_factOfRun, rmX5_readFactor]; omega, by dsimp only [rmX5_factOfRun, rmX5_readFactor]; omega⟩, rfl, rfl⟩ hK hP hD hS hX hA (h11 4 (by decide)) (cF_o E _ _ 4) rfl rfl hl.1 rfl (Nat.le_of_ble_eq_true rfl) ⟨Nat.zero_le _, Nat.zero_le _⟩ dX5_readFactor_111 (fun v_15 I_13 J_14 H locs hf hP hD hS => ?_)
        refine lv_istore_n (lv' := [(3, .int v_15), (2, .int v_3), (0, .ref (eA E 11 4)), (1, .int x1)]) S.1 S.2.1 dX5_readFactor_114 rfl hl (by decide) rfl (fun ls hl => ?_)
        refine lv_iload_n S.1 S.2.1 dX5_readFactor_115 rfl (lv_at hl 0 rfl) ?_
        refine lv_if_ne (tgt := 130) S.1 S.2.1 dX5_readFactor_116 (by decide) (fun h_16 => ?_) (fun h_16 => ?_)
        · have hf := hf.2 h_16
          refine lv_aload_n S.1 S.2.1 dX5_readFactor_130 rfl (lv_at hl 2 rfl) ?_
          refine gfX5_0 S iX5 hK hP (h11 4 (by decide)) k1 dX5_readFactor_131 ?_
          refine gfX1_0 S iX1 hK hP (by decide) ((fun r => hG 10 r (by decide)) 0 (by decide)) k2 dX5_readFactor_134 ?_
          refine gfX4_2 S iX4 hK hP (by decide) ((fun r => hG 10 r (by decide)) 1 (by decide)) k3 dX5_readFactor_137 ?_
          refine lv_iload_n S.1 S.2.1 dX5_readFactor_140 rfl (lv_at hl 0 rfl) ?_
          refine R_cVv (As := [.int v_15]) (rest := []) S (c_X3_add (hB := (by decide)) (hM := (fun r => hG 10 r (by decide)))  hf) gX5_readFactor_X3_add rfl yk_X3_add ⟨⟨by dsimp only [rmX3_add, rmX5_readFactor]; omega, by dsimp only [rmX3_add, rmX5_readFactor]; omega⟩, rfl, rfl⟩ hK hP hD hS hX hA ((fun r => hG 10 r (by decide)) 2 (by decide)) (cF_g E (by decide) _ _ 2) rfl rfl hl.1 rfl (Nat.le_of_ble_eq_true rfl) ⟨Nat.zero_le _, Nat.zero_le _⟩ dX5_readFactor_141 (fun I_17 J_18 H locs hf hP hD hS => ?_)
          refine lv_iconst (v := 1) S.1 S.2.1 dX5_readFactor_144 rfl ?_
          exact hret hf rfl hP hD hS dX5_readFactor_145
        · have hf := hf.1 h_16
          refine lv_aload_n S.1 S.2.1 dX5_readFactor_119 rfl (lv_at hl 2 rfl) ?_
          refine lv_bipush (v := (-2)) S.1 S.2.1 dX5_readFactor_120 rfl ?_
          refine lv_aload_n S.1 S.2.1 dX5_readFactor_122 rfl (lv_at hl 2 rfl) ?_
          refine gfX5_7 S iX5 hK hP (h11 4 (by decide)) k4 dX5_readFactor_123 ?_
          refine R_cVi (As := [.int (-2 : Int32), .int (I_13 11 4 7)]) (rest := []) S (c_X5_fail (h11 := h11) (hG := hG)  hf) gX5_readFactor_X5_fail rfl yk_X5_fail ⟨⟨by dsimp only [rmX5_fail, rmX5_readFactor]; omega, by dsimp only [rmX5_fail, rmX5_readFactor]; omega⟩, rfl, rfl⟩ hK hP hD hS hX hA (h11 4 (by decide)) (cF_o E _ _ 4) rfl rfl hl.1 rfl (Nat.le_of_ble_eq_true rfl) ⟨Nat.zero_le _, Nat.zero_le _⟩ dX5_readFactor_126 (fun v_21 I_19 J_20 H locs hf hP hD hS => ?_)
          obtain ⟨h_22, hf⟩ := hf
          exact hret hf h_22.1 hP hD hS dX5_readFactor_129
      · have hf := hf.1 h_12
        refine lv_iconst (v := 0) S.1 S.2.1 dX5_readFactor_108 rfl ?_
        exact hret hf rfl hP hD hS dX5_readFactor_109
    · have hf := hf.2 h_8
      refine lv_aload_n S.1 S.2.1 dX5_readFactor_69 rfl (lv_at hl 1 rfl) ?_
      refine lv_iconst (v := 0) S.1 S.2.1 dX5_readFactor_70 rfl ?_
      refine lv_sipush (v := 9999) S.1 S.2.1 dX5_readFactor_71 rfl ?_
      refine R_cVi (As := [.int (0 : Int32), .int (9999 : Int32)]) (rest := []) S (c_X5_readNumber (h11 := h11) (hG := hG)  hf) gX5_readFactor_X5_readNumber rfl yk_X5_readNumber ⟨⟨by dsimp only [rmX5_readNumber, rmX5_readFactor]; omega, by dsimp only [rmX5_readNumber, rmX5_readFactor]; omega⟩, rfl, rfl⟩ hK hP hD hS hX hA (h11 4 (by decide)) (cF_o E _ _ 4) rfl rfl hl.1 rfl (Nat.le_of_ble_eq_true rfl) ⟨Nat.zero_le _, Nat.zero_le _⟩ dX5_readFactor_74 (fun v_25 I_23 J_24 H locs hf hP hD hS => ?_)
      refine lv_if_ne (tgt := 82) S.1 S.2.1 dX5_readFactor_77 (by decide) (fun h_26 => ?_) (fun h_26 => ?_)
      · have hf := hf.2 h_26
        refine lv_aload_n S.1 S.2.1 dX5_readFactor_82 rfl (lv_at hl 1 rfl) ?_
        refine gfX5_0 S iX5 hK hP (h11 4 (by decide)) k1 dX5_readFactor_83 ?_
        refine gfX1_0 S iX1 hK hP (by decide) ((fun r => hG 10 r (by decide)) 0 (by decide)) k2 dX5_readFactor_86 ?_
        refine gfX4_2 S iX4 hK hP (by decide) ((fun r => hG 10 r (by decide)) 1 (by decide)) k3 dX5_readFactor_89 ?_
        refine lv_aload_n S.1 S.2.1 dX5_readFactor_92 rfl (lv_at hl 1 rfl) ?_
        refine gfX5_6 S iX5 hK hP (h11 4 (by decide)) k5 dX5_readFactor_93 ?_
        refine R_cVv (As := [.int (I_23 11 4 6)]) (rest := []) S (c_X3_add (hB := (by decide)) (hM := (fun r => hG 10 r (by decide)))  hf) gX5_readFactor_X3_add rfl yk_X3_add ⟨⟨by dsimp only [rmX3_add, rmX5_readFactor]; omega, by dsimp only [rmX3_add, rmX5_readFactor]; omega⟩, rfl, rfl⟩ hK hP hD hS hX hA ((fun r => hG 10 r (by decide)) 2 (by decide)) (cF_g E (by decide) _ _ 2) rfl rfl hl.1 rfl (Nat.le_of_ble_eq_true rfl) ⟨Nat.zero_le _, Nat.zero_le _⟩ dX5_readFactor_96 (fun I_27 J_28 H locs hf hP hD hS => ?_)
        refine lv_iconst (v := 1) S.1 S.2.1 dX5_readFactor_99 rfl ?_
        exact hret hf rfl hP hD hS dX5_readFactor_100
      · have hf := hf.1 h_26
        refine lv_iconst (v := 0) S.1 S.2.1 dX5_readFactor_80 rfl ?_
        exact hret hf rfl hP hD hS dX5_readFactor_81
  · have hf := hf.1 h_4
    refine lv_iload_n S.1 S.2.1 dX5_readFactor_11 rfl (lv_at hl 2 rfl) ?_
    refine lv_iconst (v := 4) S.1 S.2.1 dX5_readFactor_12 rfl ?_
    refine lv_icmp_lt (tgt := 27) S.1 S.2.1 dX5_readFactor_13 (by decide) (fun h_29 => ?_) (fun h_29 => ?_)
    · have hf := hf.1 h_29
      refine lv_aload_n S.1 S.2.1 dX5_readFactor_27 rfl (lv_at hl 1 rfl) ?_
      refine lv_dup S.1 S.2.1 dX5_readFactor_28 rfl ?_
      refine gfX5_4 S iX5 hK hP (h11 4 (by decide)) k6 dX5_readFactor_29 ?_
      refine lv_iconst (v := 1) S.1 S.2.1 dX5_readFactor_32 rfl ?_
      refine lv_iadd S.1 S.2.1 dX5_readFactor_33 ?_
      refine nm_o hf (fun I_30 eI_30 hf => ?_)
      refine pfX5_4 S iX5 hK hP hD hS (h11 4 (by decide)) k6 dX5_readFactor_34 eI_30 (fun H locs hP hD hS => ?_)
      refine lv_aload_n S.1 S.2.1 dX5_readFactor_37 rfl (lv_at hl 1 rfl) ?_
      refine lv_iload_n S.1 S.2.1 dX5_readFactor_38 rfl (lv_at hl 2 rfl) ?_
      refine lv_iconst (v := 1) S.1 S.2.1 dX5_readFactor_39 rfl ?_
      refine lv_iadd S.1 S.2.1 dX5_readFactor_40 ?_
      refine R_cVi (As := [.int (x1 + (1 : Int32))]) (rest := []) S (hrs hf) gX5_readFactor_X5_readSum rfl yk_X5_readSum ⟨⟨by dsimp only [rmX5_readSum, rmX5_readFactor]; omega, by dsimp only [rmX5_readSum, rmX5_readFactor]; omega⟩, rfl, rfl⟩ hK hP hD hS hX hA (h11 4 (by decide)) (cF_o E _ _ 4) rfl rfl hl.1 rfl (Nat.le_of_ble_eq_true rfl) ⟨Nat.zero_le _, Nat.zero_le _⟩ dX5_readFactor_41 (fun v_33 I_31 J_32 H locs hf hP hD hS => ?_)
      refine lv_if_eq (tgt := 60) S.1 S.2.1 dX5_readFactor_44 (by decide) (fun h_34 => ?_) (fun h_34 => ?_)
      · have hf := hf.1 h_34
        refine lv_iconst (v := 0) S.1 S.2.1 dX5_readFactor_60 rfl ?_
        exact hret hf rfl hP hD hS dX5_readFactor_61
      · have hf := hf.2 h_34
        refine lv_aload_n S.1 S.2.1 dX5_readFactor_47 rfl (lv_at hl 1 rfl) ?_
        refine lv_bipush (v := 41) S.1 S.2.1 dX5_readFactor_48 rfl ?_
        refine R_cVi (As := [.int (41 : Int32)]) (rest := []) S (c_X5_readSign (h11 := h11) (hG := hG)  hf) gX5_readFactor_X5_readSign rfl yk_X5_readSign ⟨⟨by dsimp only [rmX5_readSign, rmX5_readFactor]; omega, by dsimp only [rmX5_readSign, rmX5_readFactor]; omega⟩, rfl, rfl⟩ hK hP hD hS hX hA (h11 4 (by decide)) (cF_o E _ _ 4) rfl rfl hl.1 rfl (Nat.le_of_ble_eq_true rfl) ⟨Nat.zero_le _, Nat.zero_le _⟩ dX5_readFactor_50 (fun v_37 I_35 J_36 H locs hf hP hD hS => ?_)
        refine lv_if_eq (tgt := 60) S.1 S.2.1 dX5_readFactor_53 (by decide) (fun h_38 => ?_) (fun h_38 => ?_)
        · have hf := hf.1 h_38
          refine lv_iconst (v := 0) S.1 S.2.1 dX5_readFactor_60 rfl ?_
          exact hret hf rfl hP hD hS dX5_readFactor_61
        · have hf := hf.2 h_38
          refine lv_iconst (v := 1) S.1 S.2.1 dX5_readFactor_56 rfl ?_
          refine lv_goto (tgt := 61) S.1 S.2.1 dX5_readFactor_57 (by decide) ?_
          exact hret hf rfl hP hD hS dX5_readFactor_61
    · have hf := hf.2 h_29
      refine lv_aload_n S.1 S.2.1 dX5_readFactor_16 rfl (lv_at hl 1 rfl) ?_
      refine lv_bipush (v := (-6)) S.1 S.2.1 dX5_readFactor_17 rfl ?_
      refine lv_aload_n S.1 S.2.1 dX5_readFactor_19 rfl (lv_at hl 1 rfl) ?_
      refine gfX5_4 S iX5 hK hP (h11 4 (by decide)) k6 dX5_readFactor_20 ?_
      refine R_cVi (As := [.int (-6 : Int32), .int (I_1 11 4 4)]) (rest := []) S (c_X5_fail (h11 := h11) (hG := hG)  hf) gX5_readFactor_X5_fail rfl yk_X5_fail ⟨⟨by dsimp only [rmX5_fail, rmX5_readFactor]; omega, by dsimp only [rmX5_fail, rmX5_readFactor]; omega⟩, rfl, rfl⟩ hK hP hD hS hX hA (h11 4 (by decide)) (cF_o E _ _ 4) rfl rfl hl.1 rfl (Nat.le_of_ble_eq_true rfl) ⟨Nat.zero_le _, Nat.zero_le _⟩ dX5_readFactor_23 (fun v_41 I_39 J_40 H locs hf hP hD hS => ?_)
      obtain ⟨h_42, hf⟩ := hf
      exact hret hf h_42.1 hP hD hS dX5_readFactor_26
