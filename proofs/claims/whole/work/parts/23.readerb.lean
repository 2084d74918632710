abbrev rmX5_takeOperator : Room := { frames := 1, cells := 0, slots := 0, locals := 20 }
theorem yk_X5_takeOperator : yOk yX5_takeOperator RX5 0 := by unfold yOk; decide +kernel
def f_X5_takeOperator_J70 (Q : Int32 → MI → MJ → Prop) (x1_5 : Int32) (I_6 : MI) (J_7 : MJ) : Prop :=
  ∀ I_8 : MI, I_8 = sI I_6 11 4 4 ((I_6 11 4 4) + (1 : Int32)) → Q x1_5 I_8 J_7
def f_X5_takeOperator (I : MI) (J : MJ) (Q : Int32 → MI → MJ → Prop) : Prop :=
  f_X5_peek I J (fun (v_3 : Int32) (I_1 : MI) (J_2 : MJ) => ((v_3 = (42 : Int32) → f_X5_takeOperator_J70 Q (-9 : Int32) I_1 J_2) ∧ (¬ v_3 = (42 : Int32) → ((v_3 = (43 : Int32) → f_X5_takeOperator_J70 Q (-7 : Int32) I_1 J_2) ∧ (¬ v_3 = (43 : Int32) → ((v_3 = (45 : Int32) → f_X5_takeOperator_J70 Q (-8 : Int32) I_1 J_2) ∧ (¬ v_3 = (45 : Int32) → ((v_3 = (47 : Int32) → f_X5_takeOperator_J70 Q (-10 : Int32) I_1 J_2) ∧ (¬ v_3 = (47 : Int32) → Q (0 : Int32) I_1 J_2)))))))))
set_option maxRecDepth 100000 in
set_option maxHeartbeats 4000000 in
theorem c_X5_takeOperator {l : Launch} {E : EV} {ps : List (Nat × Nat)} (h11 : ∀ r, r < 11 → (11, r) ∈ ps) (hG : ∀ k r, k < 11 → r < 16 → (k, r) ∈ ps) {I : MI} {J : MJ} {Q : Int32 → MI → MJ → Prop} (hf : f_X5_takeOperator I J Q) : KI l yX5_takeOperator wsX5_takeOperator rmX5_takeOperator E ps [.ref (eA E 11 4)] I J Q := by
  refine K_ofI (cc := cX5_takeOperator) (maxL := 2) (ty := .int) (by decide +kernel) rfl (Nat.le_of_ble_eq_true rfl) (fun p e s m args below meth c Qm hret S hK hX => ?_)
  have hA : ∀ q, s.heap.size ≤ q → AA E ps s.heap.size q := fun _ h => Or.inr h
  have k1 := S.2.2.2.2 (.fieldLink RX5 41 "RhymeRoofs$SetupReader" "at" "I") (by decide +kernel)
  have iX5 : ∀ w ∈ wsX50, w ∈ wsX5_takeOperator := fun _ h => List.mem_cons_of_mem _ (List.mem_append_right _ h)
  have jn70 : ∀ (x1_5 : Int32) (I_6 : MI) (J_7 : MJ), f_X5_takeOperator_J70 Q x1_5 I_6 J_7 → Wj p l e (rmX5_takeOperator) s m args below meth c Qm E ps 2 I_6 J_7 70 [(0, .ref (eA E 11 4)), (1, .int x1_5)] [] := by
    intro x1_5 I_6 J_7 hf H locs ls hP hD hS hl
    unfold f_X5_takeOperator_J70 at hf
    refine lv_aload_n S.1 S.2.1 dX5_takeOperator_70 rfl (lv_at hl 0 rfl) ?_
    refine lv_dup S.1 S.2.1 dX5_takeOperator_71 rfl ?_
    refine gfX5_4 S iX5 hK hP (h11 4 (by decide)) k1 dX5_takeOperator_72 ?_
    refine lv_iconst (v := 1) S.1 S.2.1 dX5_takeOperator_75 rfl ?_
    refine lv_iadd S.1 S.2.1 dX5_takeOperator_76 ?_
    refine nm_o hf (fun I_8 eI_8 hf => ?_)
    refine pfX5_4 S iX5 hK hP hD hS (h11 4 (by decide)) k1 dX5_takeOperator_77 eI_8 (fun H locs hP hD hS => ?_)
    refine lv_iload_n S.1 S.2.1 dX5_takeOperator_80 rfl (lv_at hl 1 rfl) ?_
    exact hret hf rfl hP hD hS dX5_takeOperator_81
  intro H locs ls hP hD hS hl
  unfold f_X5_takeOperator at hf
  refine lv_aload_n S.1 S.2.1 dX5_takeOperator_0 rfl (lv_at hl 0 rfl) ?_
  refine R_cVi (As := []) (rest := []) S (c_X5_peek (h11 := h11) (hG := hG)  hf) gX5_takeOperator_X5_peek rfl yk_X5_peek ⟨⟨Nat.le_of_ble_eq_true rfl, Nat.le_of_ble_eq_true rfl⟩, rfl, rfl⟩ hK hP hD hS hX hA (h11 4 (by decide)) (cF_o E _ _ 4) rfl rfl hl.1 rfl (Nat.le_of_ble_eq_true rfl) ⟨Nat.zero_le _, Nat.zero_le _⟩ dX5_takeOperator_1 (fun v_3 I_1 J_2 H locs hf hP hD hS => ?_)
  refine Classical.byCases (p := v_3 = (42 : Int32)) (fun h_4 => ?_) (fun h_4_0 => ?_)
  · have hf := hf.1 h_4
    refine R_swIn (tgt := 56) (off := 52) S.1 S.2.1 dX5_takeOperator_4 h_4 (by decide) (by decide) ?_
    refine lv_bipush (v := (-9)) S.1 S.2.1 dX5_takeOperator_56 rfl ?_
    refine lv_istore_n (lv' := [(1, .int (-9 : Int32)), (0, .ref (eA E 11 4))]) S.1 S.2.1 dX5_takeOperator_58 rfl hl (by decide) rfl (fun ls hl => ?_)
    refine lv_goto (tgt := 70) S.1 S.2.1 dX5_takeOperator_59 (by decide) ?_
    exact jn70 _ _ _ hf _ _ _ hP hD hS (lv_sub hl [1, 0] rfl)
  have hf := hf.2 h_4_0
  refine Classical.byCases (p := v_3 = (43 : Int32)) (fun h_4 => ?_) (fun h_4_1 => ?_)
  · have hf := hf.1 h_4
    refine R_swIn (tgt := 44) (off := 40) S.1 S.2.1 dX5_takeOperator_4 h_4 (by decide) (by decide) ?_
    refine lv_bipush (v := (-7)) S.1 S.2.1 dX5_takeOperator_44 rfl ?_
    refine lv_istore_n (lv' := [(1, .int (-7 : Int32)), (0, .ref (eA E 11 4))]) S.1 S.2.1 dX5_takeOperator_46 rfl hl (by decide) rfl (fun ls hl => ?_)
    refine lv_goto (tgt := 70) S.1 S.2.1 dX5_takeOperator_47 (by decide) ?_
    exact jn70 _ _ _ hf _ _ _ hP hD hS (lv_sub hl [1, 0] rfl)
  have hf := hf.2 h_4_1
  refine Classical.byCases (p := v_3 = (45 : Int32)) (fun h_4 => ?_) (fun h_4_3 => ?_)
  · have hf := hf.1 h_4
    refine R_swIn (tgt := 50) (off := 46) S.1 S.2.1 dX5_takeOperator_4 h_4 (by decide) (by decide) ?_
    refine lv_bipush (v := (-8)) S.1 S.2.1 dX5_takeOperator_50 rfl ?_
    refine lv_istore_n (lv' := [(1, .int (-8 : Int32)), (0, .ref (eA E 11 4))]) S.1 S.2.1 dX5_takeOperator_52 rfl hl (by decide) rfl (fun ls hl => ?_)
    refine lv_goto (tgt := 70) S.1 S.2.1 dX5_takeOperator_53 (by decide) ?_
    exact jn70 _ _ _ hf _ _ _ hP hD hS (lv_sub hl [1, 0] rfl)
  have hf := hf.2 h_4_3
  refine Classical.byCases (p := v_3 = (47 : Int32)) (fun h_4 => ?_) (fun h_4_5 => ?_)
  · have hf := hf.1 h_4
    refine R_swIn (tgt := 62) (off := 58) S.1 S.2.1 dX5_takeOperator_4 h_4 (by decide) (by decide) ?_
    refine lv_bipush (v := (-10)) S.1 S.2.1 dX5_takeOperator_62 rfl ?_
    refine lv_istore_n (lv' := [(1, .int (-10 : Int32)), (0, .ref (eA E 11 4))]) S.1 S.2.1 dX5_takeOperator_64 rfl hl (by decide) rfl (fun ls hl => ?_)
    refine lv_goto (tgt := 70) S.1 S.2.1 dX5_takeOperator_65 (by decide) ?_
    exact jn70 _ _ _ hf _ _ _ hP hD hS (lv_sub hl [1, 0] rfl)
  have hf := hf.2 h_4_5
  refine Classical.byCases (p := v_3 = (44 : Int32)) (fun h_9 => ?_) (fun h_4_2 => ?_)
  · refine R_swIn (tgt := 68) (off := 64) S.1 S.2.1 dX5_takeOperator_4 h_9 (by decide) (by decide) ?_
    refine lv_iconst (v := 0) S.1 S.2.1 dX5_takeOperator_68 rfl ?_
    exact hret hf rfl hP hD hS dX5_takeOperator_69
  refine Classical.byCases (p := v_3 = (46 : Int32)) (fun h_9 => ?_) (fun h_4_4 => ?_)
  · refine R_swIn (tgt := 68) (off := 64) S.1 S.2.1 dX5_takeOperator_4 h_9 (by decide) (by decide) ?_
    refine lv_iconst (v := 0) S.1 S.2.1 dX5_takeOperator_68 rfl ?_
    exact hret hf rfl hP hD hS dX5_takeOperator_69
  refine lv_tableOut (tgt := 68) S.1 S.2.1 dX5_takeOperator_4 (by have q0 := ne_I (z := 42) h_4_0 (by decide); have q1 := ne_I (z := 43) h_4_1 (by decide); have q2 := ne_I (z := 44) h_4_2 (by decide); have q3 := ne_I (z := 45) h_4_3 (by decide); have q4 := ne_I (z := 46) h_4_4 (by decide); have q5 := ne_I (z := 47) h_4_5 (by decide); omega) (by decide) ?_
  refine lv_iconst (v := 0) S.1 S.2.1 dX5_takeOperator_68 rfl ?_
  exact hret hf rfl hP hD hS dX5_takeOperator_69
abbrev rmX5_factOfRun : Room := { frames := 5, cells := 0, slots := 0, locals := 107 }
theorem yk_X5_factOfRun : yOk yX5_factOfRun RX5 0 := by unfold yOk; decide +kernel
def f_X5_factOfRun (I : MI) (J : MJ) (Q : Int32 → MI → MJ → Prop) : Prop :=
  f_X5_runIs 8 I J (fun (v_3 : Int32) (I_1 : MI) (J_2 : MJ) => ((v_3 = (0 : Int32) → f_X5_runIs 9 I_1 J_2 (fun (v_7 : Int32) (I_5 : MI) (J_6 : MJ) => ((v_7 = (0 : Int32) → f_X5_runIs 10 I_5 J_6 (fun (v_11 : Int32) (I_9 : MI) (J_10 : MJ) => ((v_11 = (0 : Int32) → f_X5_runIs 11 I_9 J_10 (fun (v_15 : Int32) (I_13 : MI) (J_14 : MJ) => ((v_15 = (0 : Int32) → f_X5_runIs 12 I_13 J_14 (fun (v_19 : Int32) (I_17 : MI) (J_18 : MJ) => ((v_19 = (0 : Int32) → f_X5_runIs 6 I_17 J_18 (fun (v_23 : Int32) (I_21 : MI) (J_22 : MJ) => ((v_23 = (0 : Int32) → Q (0 : Int32) I_21 J_22) ∧ (¬ v_23 = (0 : Int32) → Q (-6 : Int32) I_21 J_22)))) ∧ (¬ v_19 = (0 : Int32) → Q (-5 : Int32) I_17 J_18)))) ∧ (¬ v_15 = (0 : Int32) → Q (-4 : Int32) I_13 J_14)))) ∧ (¬ v_11 = (0 : Int32) → Q (-3 : Int32) I_9 J_10)))) ∧ (¬ v_7 = (0 : Int32) → Q (-2 : Int32) I_5 J_6)))) ∧ (¬ v_3 = (0 : Int32) → Q (-1 : Int32) I_1 J_2)))
set_option maxRecDepth 100000 in
set_option maxHeartbeats 4000000 in
theorem c_X5_factOfRun {l : Launch} {E : EV} {ps : List (Nat × Nat)} (h11 : ∀ r, r < 11 → (11, r) ∈ ps) (hG : ∀ k r, k < 11 → r < 16 → (k, r) ∈ ps) {I : MI} {J : MJ} {Q : Int32 → MI → MJ → Prop} (hf : f_X5_factOfRun I J Q) : KI l yX5_factOfRun wsX5_factOfRun rmX5_factOfRun E ps [.ref (eA E 11 4)] I J Q := by
  refine K_ofI (cc := cX5_factOfRun) (maxL := 1) (ty := .int) (by decide +kernel) rfl (Nat.le_of_ble_eq_true rfl) (fun p e s m args below meth c Qm hret S hK hX => ?_)
  have hA : ∀ q, s.heap.size ≤ q → AA E ps s.heap.size q := fun _ h => Or.inr h
  intro H locs ls hP hD hS hl
  unfold f_X5_factOfRun at hf
  refine lv_aload_n S.1 S.2.1 dX5_factOfRun_0 rfl (lv_at hl 0 rfl) ?_
  refine va_ldcS S.1 S.2.1 S.2.2.2.1 (hX.2.2.2.2.2.1 _ sxrX5_211) dX5_factOfRun_1 ?_
  refine R_cVi (As := [.ref (eK E 8)]) (rest := []) S (c_X5_runIs (h11 := h11) (hG := hG) (hw := (by decide)) hf) gX5_factOfRun_X5_runIs rfl yk_X5_runIs ⟨⟨Nat.le_of_ble_eq_true rfl, Nat.le_of_ble_eq_true rfl⟩, rfl, rfl⟩ hK hP hD hS hX hA (h11 4 (by decide)) (cF_o E _ _ 4) rfl rfl hl.1 rfl (Nat.le_of_ble_eq_true rfl) ⟨Nat.zero_le _, Nat.zero_le _⟩ dX5_factOfRun_3 (fun v_3 I_1 J_2 H locs hf hP hD hS => ?_)
  refine lv_if_eq (tgt := 11) S.1 S.2.1 dX5_factOfRun_6 (by decide) (fun h_4 => ?_) (fun h_4 => ?_)
  · have hf := hf.1 h_4
    refine lv_aload_n S.1 S.2.1 dX5_factOfRun_11 rfl (lv_at hl 0 rfl) ?_
    refine va_ldcS S.1 S.2.1 S.2.2.2.1 (hX.2.2.2.2.2.1 _ sxrX5_213) dX5_factOfRun_12 ?_
    refine R_cVi (As := [.ref (eK E 9)]) (rest := []) S (c_X5_runIs (h11 := h11) (hG := hG) (hw := (by decide)) hf) gX5_factOfRun_X5_runIs rfl yk_X5_runIs ⟨⟨Nat.le_of_ble_eq_true rfl, Nat.le_of_ble_eq_true rfl⟩, rfl, rfl⟩ hK hP hD hS hX hA (h11 4 (by decide)) (cF_o E _ _ 4) rfl rfl hl.1 rfl (Nat.le_of_ble_eq_true rfl) ⟨Nat.zero_le _, Nat.zero_le _⟩ dX5_factOfRun_14 (fun v_7 I_5 J_6 H locs hf hP hD hS => ?_)
    refine lv_if_eq (tgt := 23) S.1 S.2.1 dX5_factOfRun_17 (by decide) (fun h_8 => ?_) (fun h_8 => ?_)
    · have hf := hf.1 h_8
      refine lv_aload_n S.1 S.2.1 dX5_factOfRun_23 rfl (lv_at hl 0 rfl) ?_
      refine va_ldcS S.1 S.2.1 S.2.2.2.1 (hX.2.2.2.2.2.1 _ sxrX5_215) dX5_factOfRun_24 ?_
      refine R_cVi (As := [.ref (eK E 10)]) (rest := []) S (c_X5_runIs (h11 := h11) (hG := hG) (hw := (by decide)) hf) gX5_factOfRun_X5_runIs rfl yk_X5_runIs ⟨⟨Nat.le_of_ble_eq_true rfl, Nat.le_of_ble_eq_true rfl⟩, rfl, rfl⟩ hK hP hD hS hX hA (h11 4 (by decide)) (cF_o E _ _ 4) rfl rfl hl.1 rfl (Nat.le_of_ble_eq_true rfl) ⟨Nat.zero_le _, Nat.zero_le _⟩ dX5_factOfRun_26 (fun v_11 I_9 J_10 H locs hf hP hD hS => ?_)
      refine lv_if_eq (tgt := 35) S.1 S.2.1 dX5_factOfRun_29 (by decide) (fun h_12 => ?_) (fun h_12 => ?_)
      · have hf := hf.1 h_12
        refine lv_aload_n S.1 S.2.1 dX5_factOfRun_35 rfl (lv_at hl 0 rfl) ?_
        refine va_ldcS S.1 S.2.1 S.2.2.2.1 (hX.2.2.2.2.2.1 _ sxrX5_217) dX5_factOfRun_36 ?_
        refine R_cVi (As := [.ref (eK E 11)]) (rest := []) S (c_X5_runIs (h11 := h11) (hG := hG) (hw := (by decide)) hf) gX5_factOfRun_X5_runIs rfl yk_X5_runIs ⟨⟨Nat.le_of_ble_eq_true rfl, Nat.le_of_ble_eq_true rfl⟩, rfl, rfl⟩ hK hP hD hS hX hA (h11 4 (by decide)) (cF_o E _ _ 4) rfl rfl hl.1 rfl (Nat.le_of_ble_eq_true rfl) ⟨Nat.zero_le _, Nat.zero_le _⟩ dX5_factOfRun_38 (fun v_15 I_13 J_14 H locs hf hP hD hS => ?_)
        refine lv_if_eq (tgt := 47) S.1 S.2.1 dX5_factOfRun_41 (by decide) (fun h_16 => ?_) (fun h_16 => ?_)
        · have hf := hf.1 h_16
          refine lv_aload_n S.1 S.2.1 dX5_factOfRun_47 rfl (lv_at hl 0 rfl) ?_
          refine va_ldcS S.1 S.2.1 S.2.2.2.1 (hX.2.2.2.2.2.1 _ sxrX5_219) dX5_factOfRun_48 ?_
          refine R_cVi (As := [.ref (eK E 12)]) (rest := []) S (c_X5_runIs (h11 := h11) (hG := hG) (hw := (by decide)) hf) gX5_factOfRun_X5_runIs rfl yk_X5_runIs ⟨⟨Nat.le_of_ble_eq_true rfl, Nat.le_of_ble_eq_true rfl⟩, rfl, rfl⟩ hK hP hD hS hX hA (h11 4 (by decide)) (cF_o E _ _ 4) rfl rfl hl.1 rfl (Nat.le_of_ble_eq_true rfl) ⟨Nat.zero_le _, Nat.zero_le _⟩ dX5_factOfRun_50 (fun v_19 I_17 J_18 H locs hf hP hD hS => ?_)
          refine lv_if_eq (tgt := 59) S.1 S.2.1 dX5_factOfRun_53 (by decide) (fun h_20 => ?_) (fun h_20 => ?_)
          · have hf := hf.1 h_20
            refine lv_aload_n S.1 S.2.1 dX5_factOfRun_59 rfl (lv_at hl 0 rfl) ?_
            refine va_ldcS S.1 S.2.1 S.2.2.2.1 (hX.2.2.2.2.2.1 _ sxrX5_155) dX5_factOfRun_60 ?_
            refine R_cVi (As := [.ref (eK E 6)]) (rest := []) S (c_X5_runIs (h11 := h11) (hG := hG) (hw := (by decide)) hf) gX5_factOfRun_X5_runIs rfl yk_X5_runIs ⟨⟨Nat.le_of_ble_eq_true rfl, Nat.le_of_ble_eq_true rfl⟩, rfl, rfl⟩ hK hP hD hS hX hA (h11 4 (by decide)) (cF_o E _ _ 4) rfl rfl hl.1 rfl (Nat.le_of_ble_eq_true rfl) ⟨Nat.zero_le _, Nat.zero_le _⟩ dX5_factOfRun_62 (fun v_23 I_21 J_22 H locs hf hP hD hS => ?_)
            refine lv_if_eq (tgt := 73) S.1 S.2.1 dX5_factOfRun_65 (by decide) (fun h_24 => ?_) (fun h_24 => ?_)
            · have hf := hf.1 h_24
              refine lv_iconst (v := 0) S.1 S.2.1 dX5_factOfRun_73 rfl ?_
              exact hret hf rfl hP hD hS dX5_factOfRun_74
            · have hf := hf.2 h_24
              refine lv_bipush (v := (-6)) S.1 S.2.1 dX5_factOfRun_68 rfl ?_
              refine lv_goto (tgt := 74) S.1 S.2.1 dX5_factOfRun_70 (by decide) ?_
              exact hret hf rfl hP hD hS dX5_factOfRun_74
          · have hf := hf.2 h_20
            refine lv_bipush (v := (-5)) S.1 S.2.1 dX5_factOfRun_56 rfl ?_
            exact hret hf rfl hP hD hS dX5_factOfRun_58
        · have hf := hf.2 h_16
          refine lv_bipush (v := (-4)) S.1 S.2.1 dX5_factOfRun_44 rfl ?_
          exact hret hf rfl hP hD hS dX5_factOfRun_46
      · have hf := hf.2 h_12
        refine lv_bipush (v := (-3)) S.1 S.2.1 dX5_factOfRun_32 rfl ?_
        exact hret hf rfl hP hD hS dX5_factOfRun_34
    · have hf := hf.2 h_8
      refine lv_bipush (v := (-2)) S.1 S.2.1 dX5_factOfRun_20 rfl ?_
      exact hret hf rfl hP hD hS dX5_factOfRun_22
  · have hf := hf.2 h_4
    refine lv_iconst (v := (-1)) S.1 S.2.1 dX5_factOfRun_9 rfl ?_
    exact hret hf rfl hP hD hS dX5_factOfRun_10
abbrev rmX5_readRoof : Room := { frames := 5, cells := 0, slots := 0, locals := 108 }
theorem yk_X5_readRoof : yOk yX5_readRoof RX5 0 := by unfold yOk; decide +kernel
def f_X5_readRoof (I : MI) (J : MJ) (Q : Int32 → MI → MJ → Prop) : Prop :=
  f_X5_readRun I J (fun (v_3 : Int32) (I_1 : MI) (J_2 : MJ) => ((v_3 = (0 : Int32) → Q (0 : Int32) I_1 J_2) ∧ (¬ v_3 = (0 : Int32) → f_X5_runIs 0 I_1 J_2 (fun (v_7 : Int32) (I_5 : MI) (J_6 : MJ) => ((v_7 = (0 : Int32) → f_X5_fail (-2 : Int32) (I_5 11 4 7) I_5 J_6 (fun (v_11 : Int32) (I_9 : MI) (J_10 : MJ) => (bo v_11 ∧ Q v_11 I_9 J_10))) ∧ (¬ v_7 = (0 : Int32) → f_X5_readRows I_5 J_6 (fun (v_15 : Int32) (I_13 : MI) (J_14 : MJ) => ((v_15 = (0 : Int32) → Q (0 : Int32) I_13 J_14) ∧ (¬ v_15 = (0 : Int32) → f_X5_readSign (59 : Int32) I_13 J_14 (fun (v_19 : Int32) (I_17 : MI) (J_18 : MJ) => ((v_19 = (0 : Int32) → Q (0 : Int32) I_17 J_18) ∧ (¬ v_19 = (0 : Int32) → Q (1 : Int32) I_17 J_18))))))))))))
set_option maxRecDepth 100000 in
set_option maxHeartbeats 4000000 in
theorem c_X5_readRoof {l : Launch} {E : EV} {ps : List (Nat × Nat)} (h11 : ∀ r, r < 11 → (11, r) ∈ ps) (hG : ∀ k r, k < 11 → r < 16 → (k, r) ∈ ps) {I : MI} {J : MJ} {Q : Int32 → MI → MJ → Prop} (hf : f_X5_readRoof I J Q) : KI l yX5_readRoof wsX5_readRoof rmX5_readRoof E ps [.ref (eA E 11 4)] I J Q := by
  refine K_ofI (cc := cX5_readRoof) (maxL := 1) (ty := .boolean) (by decide +kernel) rfl (Nat.le_of_ble_eq_true rfl) (fun p e s m args below meth c Qm hret S hK hX => ?_)
  have hA : ∀ q, s.heap.size ≤ q → AA E ps s.heap.size q := fun _ h => Or.inr h
  have k1 := S.2.2.2.2 (.fieldLink RX5 85 "RhymeRoofs$SetupReader" "tokenStart" "I") (by decide +kernel)
  have iX5 : ∀ w ∈ wsX50, w ∈ wsX5_readRoof := fun _ h => List.mem_cons_of_mem _ (List.mem_append_left _ (List.mem_append_left _ (List.mem_append_right _ h)))
  intro H locs ls hP hD hS hl
  unfold f_X5_readRoof at hf
  refine lv_aload_n S.1 S.2.1 dX5_readRoof_0 rfl (lv_at hl 0 rfl) ?_
  refine R_cVi (As := []) (rest := []) S (c_X5_readRun (h11 := h11) (hG := hG)  hf) gX5_readRoof_X5_readRun rfl yk_X5_readRun ⟨⟨Nat.le_of_ble_eq_true rfl, Nat.le_of_ble_eq_true rfl⟩, rfl, rfl⟩ hK hP hD hS hX hA (h11 4 (by decide)) (cF_o E _ _ 4) rfl rfl hl.1 rfl (Nat.le_of_ble_eq_true rfl) ⟨Nat.zero_le _, Nat.zero_le _⟩ dX5_readRoof_1 (fun v_3 I_1 J_2 H locs hf hP hD hS => ?_)
  refine lv_if_ne (tgt := 9) S.1 S.2.1 dX5_readRoof_4 (by decide) (fun h_4 => ?_) (fun h_4 => ?_)
  · have hf := hf.2 h_4
    refine lv_aload_n S.1 S.2.1 dX5_readRoof_9 rfl (lv_at hl 0 rfl) ?_
    refine va_ldcS S.1 S.2.1 S.2.2.2.1 (hX.2.2.2.2.2.1 _ sxrX5_106) dX5_readRoof_10 ?_
    refine R_cVi (As := [.ref (eK E 0)]) (rest := []) S (c_X5_runIs (h11 := h11) (hG := hG) (hw := (by decide)) hf) gX5_readRoof_X5_runIs rfl yk_X5_runIs ⟨⟨Nat.le_of_ble_eq_true rfl, Nat.le_of_ble_eq_true rfl⟩, rfl, rfl⟩ hK hP hD hS hX hA (h11 4 (by decide)) (cF_o E _ _ 4) rfl rfl hl.1 rfl (Nat.le_of_ble_eq_true rfl) ⟨Nat.zero_le _, Nat.zero_le _⟩ dX5_readRoof_12 (fun v_7 I_5 J_6 H locs hf hP hD hS => ?_)
    refine lv_if_eq (tgt := 42) S.1 S.2.1 dX5_readRoof_15 (by decide) (fun h_8 => ?_) (fun h_8 => ?_)
    · have hf := hf.1 h_8
      refine lv_aload_n S.1 S.2.1 dX5_readRoof_42 rfl (lv_at hl 0 rfl) ?_
      refine lv_bipush (v := (-2)) S.1 S.2.1 dX5_readRoof_43 rfl ?_
      refine lv_aload_n S.1 S.2.1 dX5_readRoof_45 rfl (lv_at hl 0 rfl) ?_
      refine gfX5_7 S iX5 hK hP (h11 4 (by decide)) k1 dX5_readRoof_46 ?_
      refine R_cVi (As := [.int (-2 : Int32), .int (I_5 11 4 7)]) (rest := []) S (c_X5_fail (h11 := h11) (hG := hG)  hf) gX5_readRoof_X5_fail rfl yk_X5_fail ⟨⟨Nat.le_of_ble_eq_true rfl, Nat.le_of_ble_eq_true rfl⟩, rfl, rfl⟩ hK hP hD hS hX hA (h11 4 (by decide)) (cF_o E _ _ 4) rfl rfl hl.1 rfl (Nat.le_of_ble_eq_true rfl) ⟨Nat.zero_le _, Nat.zero_le _⟩ dX5_readRoof_49 (fun v_11 I_9 J_10 H locs hf hP hD hS => ?_)
      obtain ⟨h_12, hf⟩ := hf
      exact hret hf h_12.1 hP hD hS dX5_readRoof_52
    · have hf := hf.2 h_8
      refine lv_aload_n S.1 S.2.1 dX5_readRoof_18 rfl (lv_at hl 0 rfl) ?_
      refine R_cVi (As := []) (rest := []) S (c_X5_readRows (h11 := h11) (hG := hG)  hf) gX5_readRoof_X5_readRows rfl yk_X5_readRows ⟨⟨Nat.le_of_ble_eq_true rfl, Nat.le_of_ble_eq_true rfl⟩, rfl, rfl⟩ hK hP hD hS hX hA (h11 4 (by decide)) (cF_o E _ _ 4) rfl rfl hl.1 rfl (Nat.le_of_ble_eq_true rfl) ⟨Nat.zero_le _, Nat.zero_le _⟩ dX5_readRoof_19 (fun v_15 I_13 J_14 H locs hf hP hD hS => ?_)
      refine lv_if_eq (tgt := 38) S.1 S.2.1 dX5_readRoof_22 (by decide) (fun h_16 => ?_) (fun h_16 => ?_)
      · have hf := hf.1 h_16
        refine lv_iconst (v := 0) S.1 S.2.1 dX5_readRoof_38 rfl ?_
        refine lv_goto (tgt := 52) S.1 S.2.1 dX5_readRoof_39 (by decide) ?_
        exact hret hf rfl hP hD hS dX5_readRoof_52
      · have hf := hf.2 h_16
        refine lv_aload_n S.1 S.2.1 dX5_readRoof_25 rfl (lv_at hl 0 rfl) ?_
        refine lv_bipush (v := 59) S.1 S.2.1 dX5_readRoof_26 rfl ?_
        refine R_cVi (As := [.int (59 : Int32)]) (rest := []) S (c_X5_readSign (h11 := h11) (hG := hG)  hf) gX5_readRoof_X5_readSign rfl yk_X5_readSign ⟨⟨Nat.le_of_ble_eq_true rfl, Nat.le_of_ble_eq_true rfl⟩, rfl, rfl⟩ hK hP hD hS hX hA (h11 4 (by decide)) (cF_o E _ _ 4) rfl rfl hl.1 rfl (Nat.le_of_ble_eq_true rfl) ⟨Nat.zero_le _, Nat.zero_le _⟩ dX5_readRoof_28 (fun v_19 I_17 J_18 H locs hf hP hD hS => ?_)
        refine lv_if_eq (tgt := 38) S.1 S.2.1 dX5_readRoof_31 (by decide) (fun h_20 => ?_) (fun h_20 => ?_)
        · have hf := hf.1 h_20
          refine lv_iconst (v := 0) S.1 S.2.1 dX5_readRoof_38 rfl ?_
          refine lv_goto (tgt := 52) S.1 S.2.1 dX5_readRoof_39 (by decide) ?_
          exact hret hf rfl hP hD hS dX5_readRoof_52
        · have hf := hf.2 h_20
          refine lv_iconst (v := 1) S.1 S.2.1 dX5_readRoof_34 rfl ?_
          refine lv_goto (tgt := 52) S.1 S.2.1 dX5_readRoof_35 (by decide) ?_
          exact hret hf rfl hP hD hS dX5_readRoof_52
  · have hf := hf.1 h_4
    refine lv_iconst (v := 0) S.1 S.2.1 dX5_readRoof_7 rfl ?_
    exact hret hf rfl hP hD hS dX5_readRoof_8
abbrev rmX5_readSum (d : Nat) : Room := { frames := 2 * d + 6, cells := 0, slots := 0, locals := 50 * d + 128 }
theorem yk_X5_readSum : yOk yX5_readSum RX5 1 := by unfold yOk; decide +kernel
abbrev rmX5_readFactor (d : Nat) : Room := { frames := 2 * d + 7, cells := 0, slots := 0, locals := 50 * d + 155 }
theorem yk_X5_readFactor : yOk yX5_readFactor RX5 1 := by unfold yOk; decide +kernel
def f_X5_readFactor (rs : Int32 → MI → MJ → (Int32 → MI → MJ → Prop) → Prop) (x1 : Int32) (I : MI) (J : MJ) (Q : Int32 → MI → MJ → Prop) : Prop :=
  f_X5_peek I J (fun (v_3 : Int32) (I_1 : MI) (J_2 : MJ) => ((v_3 = (40 : Int32) → ((x1 < (4 : Int32) → ∀ I_30 : MI, I_30 = sI I_1 11 4 4 ((I_1 11 4 4) + (1 : Int32)) → rs (x1 + (1 : Int32)) I_30 J_2 (fun (v_33 : Int32) (I_31 : MI) (J_32 : MJ) => ((v_33 = (0 : Int32) → Q (0 : Int32) I_31 J_32) ∧ (¬ v_33 = (0 : Int32) → f_X5_readSign (41 : Int32) I_31 J_32 (fun (v_37 : Int32) (I_35 : MI) (J_36 : MJ) => ((v_37 = (0 : Int32) → Q (0 : Int32) I_35 J_36) ∧ (¬ v_37 = (0 : Int32) → Q (1 : Int32) I_35 J_36))))))) ∧ (¬ x1 < (4 : Int32) → f_X5_fail (-6 : Int32) (I_1 11 4 4) I_1 J_2 (fun (v_41 : Int32) (I_39 : MI) (J_40 : MJ) => (bo v_41 ∧ Q v_41 I_39 J_40))))) ∧ (¬ v_3 = (40 : Int32) → f_X5_isDigit v_3 I_1 J_2 (fun (v_7 : Int32) (I_5 : MI) (J_6 : MJ) => ((v_7 = (0 : Int32) → f_X5_readRun I_5 J_6 (fun (v_11 : Int32) (I_9 : MI) (J_10 : MJ) => ((v_11 = (0 : Int32) → Q (0 : Int32) I_9 J_10) ∧ (¬ v_11 = (0 : Int32) → f_X5_factOfRun I_9 J_10 (fun (v_15 : Int32) (I_13 : MI) (J_14 : MJ) => ((v_15 = (0 : Int32) → f_X5_fail (-2 : Int32) (I_13 11 4 7) I_13 J_14 (fun (v_21 : Int32) (I_19 : MI) (J_20 : MJ) => (bo v_21 ∧ Q v_21 I_19 J_20))) ∧ (¬ v_15 = (0 : Int32) → f_X3_add 10 v_15 I_13 J_14 (fun (I_17 : MI) (J_18 : MJ) => Q (1 : Int32) I_17 J_18)))))))) ∧ (¬ v_7 = (0 : Int32) → f_X5_readNumber (0 : Int32) (9999 : Int32) I_5 J_6 (fun (v_25 : Int32) (I_23 : MI) (J_24 : MJ) => ((v_25 = (0 : Int32) → Q (0 : Int32) I_23 J_24) ∧ (¬ v_25 = (0 : Int32) → f_X3_add 10 (I_23 11 4 6) I_23 J_24 (fun (I_27 : MI) (J_28 : MJ) => Q (1 : Int32) I_27 J_28))))))))))
set_option maxRecDepth 100000 in
set_option maxHeartbeats 4000000 in
theorem c_X5_readFactor {d : Nat} {rs : Int32 → MI → MJ → (Int32 → MI → MJ → Prop) → Prop} {l : Launch} {E : EV} {ps : List (Nat × Nat)} (hrs : ∀ {x1 : Int32} {I : MI} {J : MJ} {Q : Int32 → MI → MJ → Prop}, rs x1 I J Q → KI l yX5_readSum wsX5_readSum (rmX5_readSum d) E ps [.ref (eA E 11 4), .int x1] I J Q) (h11 : ∀ r, r < 11 → (11, r) ∈ ps) (hG : ∀ k r, k < 11 → r < 16 → (k, r) ∈ ps) {x1 : Int32} {I : MI} {J : MJ} {Q : Int32 → MI → MJ → Prop} (hf : f_X5_readFactor rs x1 I J Q) : KI l yX5_readFactor wsX5_readFactor (rmX5_readFactor d) E ps [.ref (eA E 11 4), .int x1] I J Q := by
  refine K_ofI (cc := cX5_readFactor) (maxL := 4) (ty := .boolean) (by decide +kernel) rfl (Nat.le_of_ble_eq_true rfl) (fun p e s m args below meth c Qm hret S hK hX => ?_)
  have hA : ∀ q, s.heap.size ≤ q → AA E ps s.heap.size q := fun _ h => Or.inr h
  have k1 := S.2.2.2.2 (.fieldLink RX5 12 "RhymeRoofs$SetupReader" "game" "LRhymeRoofs$Game;") (by decide +kernel)
  have iX5 : ∀ w ∈ wsX50, w ∈ wsX5_readFactor := fun _ h => List.mem_cons_of_mem _ (List.mem_append_left _ (List.mem_append_left _ (List.mem_append_left _ (List.mem_append_right _ h))))
  have k2 := S.2.2.2.2 (.fieldLink RX5 115 "RhymeRoofs$Game" "rules" "LRhymeRoofs$Rules;") (by decide +kernel)
  have iX1 : ∀ w ∈ wsX10, w ∈ wsX5_readFactor := fun _ h => List.mem_cons_of_mem _ (List.mem_append_left _ (List.mem_append_left _ (List.mem_append_right _ h)))
  have k3 := S.2.2.2.2 (.fieldLink RX5 162 "RhymeRoofs$Rules" "rank" "LRhymeRoofs$Rank;") (by decide +kernel)
  have iX4 : ∀ w ∈ wsX40, w ∈ wsX5_readFactor := fun _ h => List.mem_cons_of_mem _ (List.mem_append_left _ (List.mem_append_right _ h))
  have k4 := S.2.2.2.2 (.fieldLink RX5 85 "RhymeRoofs$SetupReader" "tokenStart" "I") (by decide +kernel)
  have k5 := S.2.2.2.2 (.fieldLink RX5 88 "RhymeRoofs$SetupReader" "number" "I") (by decide +kernel)
  have k6 := S.2.2.2.2 (.fieldLink RX5 41 "RhymeRoofs$SetupReader" "at" "I") (by decide +kernel)
  intro H locs ls hP hD hS hl
  unfold f_X5_readFactor at hf
  refine lv_aload_n S.1 S.2.1 dX5_readFactor_0 rfl (lv_at hl 0 rfl) ?_
  refine R_cVi (As := []) (rest := []) S (c_X5_peek (h11 := h11) (hG := hG)  hf) gX5_readFactor_X5_peek rfl yk_X5_peek ⟨⟨by dsimp only [rmX5_peek, rmX5_readFactor]; omega, by dsimp only [rmX5_peek, rmX5_readFactor]; omega⟩, rfl, rfl⟩ hK hP hD hS hX hA (h11 4 (by decide)) (cF_o E _ _ 4) rfl rfl hl.1 rfl (Nat.le_of_ble_eq_true rfl) ⟨Nat.zero_le _, Nat.zero_le _⟩ dX5_readFactor_1 (fun v_3 I_1 J_2 H locs hf hP hD hS => ?_)
  refine lv_istore_n (lv' := [(2, .int v_3), (0, .ref (eA E 11 4)), (1, .int x1)]) S.1 S.2.1 dX5_readFactor_4 rfl hl (by decide) rfl (fun ls hl => ?_)
  refine lv_iload_n S.1 S.2.1 dX5_readFactor_5 rfl (lv_at hl 0 rfl) ?_
  refine lv_bipush (v := 40) S.1 S.2.1 dX5_readFactor_6 rfl ?_
  refine lv_icmp_ne (tgt := 62) S.1 S.2.1 dX5_readFactor_8 (by decide) (fun h_4 => ?_) (fun h_4 => ?_)
  · have hf := hf.2 h_4
    refine lv_iload_n S.1 S.2.1 dX5_readFactor_62 rfl (lv_at hl 0 rfl) ?_
    refine R_cSi (As := [.int v_3]) (rest := []) S (c_X5_isDigit   hf) gX5_readFactor_X5_isDigit rfl yk_X5_isDigit ⟨⟨by dsimp only [rmX5_isDigit, rmX5_readFactor]; omega, by dsimp only [rmX5_isDigit, rmX5_readFactor]; omega⟩, rfl, rfl⟩ hK hP hD hS hX hA rfl hl.1 rfl (Nat.le_of_ble_eq_true rfl) ⟨Nat.zero_le _, Nat.zero_le _⟩ dX5_readFactor_63 (fun v_7 I_5 J_6 H locs hf hP hD hS => ?_)
    refine lv_if_eq (tgt := 101) S.1 S.2.1 dX5_readFactor_66 (by decide) (fun h_8 => ?_) (fun h_8 => ?_)
    · have hf := hf.1 h_8
      refine lv_aload_n S.1 S.2.1 dX5_readFactor_101 rfl (lv_at hl 1 rfl) ?_
      refine R_cVi (As := []) (rest := []) S (c_X5_readRun (h11 := h11) (hG := hG)  hf) gX5_readFactor_X5_readRun rfl yk_X5_readRun ⟨⟨by dsimp only [rmX5_readRun, rmX5_readFactor]; omega, by dsimp only [rmX5_readRun, rmX5_readFactor]; omega⟩, rfl, rfl⟩ hK hP hD hS hX hA (h11 4 (by decide)) (cF_o E _ _ 4) rfl rfl hl.1 rfl (Nat.le_of_ble_eq_true rfl) ⟨Nat.zero_le _, Nat.zero_le _⟩ dX5_readFactor_102 (fun v_11 I_9 J_10 H locs hf hP hD hS => ?_)
      refine lv_if_ne (tgt := 110) S.1 S.2.1 dX5_readFactor_105 (by decide) (fun h_12 => ?_) (fun h_12 => ?_)
      · have hf := hf.2 h_12
        refine lv_aload_n S.1 S.2.1 dX5_readFactor_110 rfl (lv_at hl 1 rfl) ?_
        refine R_cVi (As := []) (rest := []) S (c_X5_factOfRun (h11 := h11) (hG := hG)  hf) gX5_readFactor_X5_factOfRun rfl yk_X5_factOfRun ⟨⟨by dsimp only [rmX5_factOfRun, rmX5_readFactor]; omega, by dsimp only [rmX5_factOfRun, rmX5_readFactor]; omega⟩, rfl, rfl⟩ hK hP hD hS hX hA (h11 4 (by decide)) (cF_o E _ _ 4) rfl rfl hl.1 rfl (Nat.le_of_ble_eq_true rfl) ⟨Nat.zero_le _, Nat.zero_le _⟩ dX5_readFactor_111 (fun v_15 I_13 J_14 H locs hf hP hD hS => ?_)
        refine lv_istore_n (lv' := [(3, .int v_15), (2, .int v_3), (0, .ref (eA E 11 4)), (1, .int x1)]) S.1 S.2.1 dX5_readFactor_114 rfl hl (by decide) rfl (fun ls hl => ?_)
        refine lv_iload_n S.1 S.2.1 dX5_readFactor_115 rfl (lv_at hl 0 rfl) ?_
        refine lv_if_ne (tgt := 130) S.1 S.2.1 dX5_readFactor_116 (by decide) (fun h_16 => ?_) (fun h_16 => ?_)
        · have hf := hf.2 h_16
          refine lv_aload_n S.1 S.2.1 dX5_readFactor_130 rfl (lv_at hl 2 rfl) ?_
          refine gfX5_0 S iX5 hK hP (h11 4 (by decide)) k1 dX5_readFactor_131 ?_
          refine gfX1_0 S iX1 hK hP (by decide) ((fun r => hG 10 r (by decide)) 0 (by decide)) k2 dX5_readFactor_134 ?_
          refine gfX4_2 S iX4 hK hP (by decide) ((fun r => hG 10 r (by decide)) 1 (by decide)) k3 dX5_readFactor_137 ?_
          refine lv_iload_n S.1 S.2.1 dX5_readFactor_140 rfl (lv_at hl 0 rfl) ?_
          refine R_cVv (As := [.int v_15]) (rest := []) S (c_X3_add (hB := (by decide)) (hM := (fun r => hG 10 r (by decide)))  hf) gX5_readFactor_X3_add rfl yk_X3_add ⟨⟨by dsimp only [rmX3_add, rmX5_readFactor]; omega, by dsimp only [rmX3_add, rmX5_readFactor]; omega⟩, rfl, rfl⟩ hK hP hD hS hX hA ((fun r => hG 10 r (by decide)) 2 (by decide)) (cF_g E (by decide) _ _ 2) rfl rfl hl.1 rfl (Nat.le_of_ble_eq_true rfl) ⟨Nat.zero_le _, Nat.zero_le _⟩ dX5_readFactor_141 (fun I_17 J_18 H locs hf hP hD hS => ?_)
          refine lv_iconst (v := 1) S.1 S.2.1 dX5_readFactor_144 rfl ?_
          exact hret hf rfl hP hD hS dX5_readFactor_145
        · have hf := hf.1 h_16
          refine lv_aload_n S.1 S.2.1 dX5_readFactor_119 rfl (lv_at hl 2 rfl) ?_
          refine lv_bipush (v := (-2)) S.1 S.2.1 dX5_readFactor_120 rfl ?_
          refine lv_aload_n S.1 S.2.1 dX5_readFactor_122 rfl (lv_at hl 2 rfl) ?_
          refine gfX5_7 S iX5 hK hP (h11 4 (by decide)) k4 dX5_readFactor_123 ?_
          refine R_cVi (As := [.int (-2 : Int32), .int (I_13 11 4 7)]) (rest := []) S (c_X5_fail (h11 := h11) (hG := hG)  hf) gX5_readFactor_X5_fail rfl yk_X5_fail ⟨⟨by dsimp only [rmX5_fail, rmX5_readFactor]; omega, by dsimp only [rmX5_fail, rmX5_readFactor]; omega⟩, rfl, rfl⟩ hK hP hD hS hX hA (h11 4 (by decide)) (cF_o E _ _ 4) rfl rfl hl.1 rfl (Nat.le_of_ble_eq_true rfl) ⟨Nat.zero_le _, Nat.zero_le _⟩ dX5_readFactor_126 (fun v_21 I_19 J_20 H locs hf hP hD hS => ?_)
          obtain ⟨h_22, hf⟩ := hf
          exact hret hf h_22.1 hP hD hS dX5_readFactor_129
      · have hf := hf.1 h_12
        refine lv_iconst (v := 0) S.1 S.2.1 dX5_readFactor_108 rfl ?_
        exact hret hf rfl hP hD hS dX5_readFactor_109
    · have hf := hf.2 h_8
      refine lv_aload_n S.1 S.2.1 dX5_readFactor_69 rfl (lv_at hl 1 rfl) ?_
      refine lv_iconst (v := 0) S.1 S.2.1 dX5_readFactor_70 rfl ?_
      refine lv_sipush (v := 9999) S.1 S.2.1 dX5_readFactor_71 rfl ?_
      refine R_cVi (As := [.int (0 : Int32), .int (9999 : Int32)]) (rest := []) S (c_X5_readNumber (h11 := h11) (hG := hG)  hf) gX5_readFactor_X5_readNumber rfl yk_X5_readNumber ⟨⟨by dsimp only [rmX5_readNumber, rmX5_readFactor]; omega, by dsimp only [rmX5_readNumber, rmX5_readFactor]; omega⟩, rfl, rfl⟩ hK hP hD hS hX hA (h11 4 (by decide)) (cF_o E _ _ 4) rfl rfl hl.1 rfl (Nat.le_of_ble_eq_true rfl) ⟨Nat.zero_le _, Nat.zero_le _⟩ dX5_readFactor_74 (fun v_25 I_23 J_24 H locs hf hP hD hS => ?_)
      refine lv_if_ne (tgt := 82) S.1 S.2.1 dX5_readFactor_77 (by decide) (fun h_26 => ?_) (fun h_26 => ?_)
      · have hf := hf.2 h_26
        refine lv_aload_n S.1 S.2.1 dX5_readFactor_82 rfl (lv_at hl 1 rfl) ?_
        refine gfX5_0 S iX5 hK hP (h11 4 (by decide)) k1 dX5_readFactor_83 ?_
        refine gfX1_0 S iX1 hK hP (by decide) ((fun r => hG 10 r (by decide)) 0 (by decide)) k2 dX5_readFactor_86 ?_
        refine gfX4_2 S iX4 hK hP (by decide) ((fun r => hG 10 r (by decide)) 1 (by decide)) k3 dX5_readFactor_89 ?_
        refine lv_aload_n S.1 S.2.1 dX5_readFactor_92 rfl (lv_at hl 1 rfl) ?_
        refine gfX5_6 S iX5 hK hP (h11 4 (by decide)) k5 dX5_readFactor_93 ?_
        refine R_cVv (As := [.int (I_23 11 4 6)]) (rest := []) S (c_X3_add (hB := (by decide)) (hM := (fun r => hG 10 r (by decide)))  hf) gX5_readFactor_X3_add rfl yk_X3_add ⟨⟨by dsimp only [rmX3_add, rmX5_readFactor]; omega, by dsimp only [rmX3_add, rmX5_readFactor]; omega⟩, rfl, rfl⟩ hK hP hD hS hX hA ((fun r => hG 10 r (by decide)) 2 (by decide)) (cF_g E (by decide) _ _ 2) rfl rfl hl.1 rfl (Nat.le_of_ble_eq_true rfl) ⟨Nat.zero_le _, Nat.zero_le _⟩ dX5_readFactor_96 (fun I_27 J_28 H locs hf hP hD hS => ?_)
        refine lv_iconst (v := 1) S.1 S.2.1 dX5_readFactor_99 rfl ?_
        exact hret hf rfl hP hD hS dX5_readFactor_100
      · have hf := hf.1 h_26
        refine lv_iconst (v := 0) S.1 S.2.1 dX5_readFactor_80 rfl ?_
        exact hret hf rfl hP hD hS dX5_readFactor_81
  · have hf := hf.1 h_4
    refine lv_iload_n S.1 S.2.1 dX5_readFactor_11 rfl (lv_at hl 2 rfl) ?_
    refine lv_iconst (v := 4) S.1 S.2.1 dX5_readFactor_12 rfl ?_
    refine lv_icmp_lt (tgt := 27) S.1 S.2.1 dX5_readFactor_13 (by decide) (fun h_29 => ?_) (fun h_29 => ?_)
    · have hf := hf.1 h_29
      refine lv_aload_n S.1 S.2.1 dX5_readFactor_27 rfl (lv_at hl 1 rfl) ?_
      refine lv_dup S.1 S.2.1 dX5_readFactor_28 rfl ?_
      refine gfX5_4 S iX5 hK hP (h11 4 (by decide)) k6 dX5_readFactor_29 ?_
      refine lv_iconst (v := 1) S.1 S.2.1 dX5_readFactor_32 rfl ?_
      refine lv_iadd S.1 S.2.1 dX5_readFactor_33 ?_
      refine nm_o hf (fun I_30 eI_30 hf => ?_)
      refine pfX5_4 S iX5 hK hP hD hS (h11 4 (by decide)) k6 dX5_readFactor_34 eI_30 (fun H locs hP hD hS => ?_)
      refine lv_aload_n S.1 S.2.1 dX5_readFactor_37 rfl (lv_at hl 1 rfl) ?_
      refine lv_iload_n S.1 S.2.1 dX5_readFactor_38 rfl (lv_at hl 2 rfl) ?_
      refine lv_iconst (v := 1) S.1 S.2.1 dX5_readFactor_39 rfl ?_
      refine lv_iadd S.1 S.2.1 dX5_readFactor_40 ?_
      refine R_cVi (As := [.int (x1 + (1 : Int32))]) (rest := []) S (hrs hf) gX5_readFactor_X5_readSum rfl yk_X5_readSum ⟨⟨by dsimp only [rmX5_readSum, rmX5_readFactor]; omega, by dsimp only [rmX5_readSum, rmX5_readFactor]; omega⟩, rfl, rfl⟩ hK hP hD hS hX hA (h11 4 (by decide)) (cF_o E _ _ 4) rfl rfl hl.1 rfl (Nat.le_of_ble_eq_true rfl) ⟨Nat.zero_le _, Nat.zero_le _⟩ dX5_readFactor_41 (fun v_33 I_31 J_32 H locs hf hP hD hS => ?_)
      refine lv_if_eq (tgt := 60) S.1 S.2.1 dX5_readFactor_44 (by decide) (fun h_34 => ?_) (fun h_34 => ?_)
      · have hf := hf.1 h_34
        refine lv_iconst (v := 0) S.1 S.2.1 dX5_readFactor_60 rfl ?_
        exact hret hf rfl hP hD hS dX5_readFactor_61
      · have hf := hf.2 h_34
        refine lv_aload_n S.1 S.2.1 dX5_readFactor_47 rfl (lv_at hl 1 rfl) ?_
        refine lv_bipush (v := 41) S.1 S.2.1 dX5_readFactor_48 rfl ?_
        refine R_cVi (As := [.int (41 : Int32)]) (rest := []) S (c_X5_readSign (h11 := h11) (hG := hG)  hf) gX5_readFactor_X5_readSign rfl yk_X5_readSign ⟨⟨by dsimp only [rmX5_readSign, rmX5_readFactor]; omega, by dsimp only [rmX5_readSign, rmX5_readFactor]; omega⟩, rfl, rfl⟩ hK hP hD hS hX hA (h11 4 (by decide)) (cF_o E _ _ 4) rfl rfl hl.1 rfl (Nat.le_of_ble_eq_true rfl) ⟨Nat.zero_le _, Nat.zero_le _⟩ dX5_readFactor_50 (fun v_37 I_35 J_36 H locs hf hP hD hS => ?_)
        refine lv_if_eq (tgt := 60) S.1 S.2.1 dX5_readFactor_53 (by decide) (fun h_38 => ?_) (fun h_38 => ?_)
        · have hf := hf.1 h_38
          refine lv_iconst (v := 0) S.1 S.2.1 dX5_readFactor_60 rfl ?_
          exact hret hf rfl hP hD hS dX5_readFactor_61
        · have hf := hf.2 h_38
          refine lv_iconst (v := 1) S.1 S.2.1 dX5_readFactor_56 rfl ?_
          refine lv_goto (tgt := 61) S.1 S.2.1 dX5_readFactor_57 (by decide) ?_
          exact hret hf rfl hP hD hS dX5_readFactor_61
    · have hf := hf.2 h_29
      refine lv_aload_n S.1 S.2.1 dX5_readFactor_16 rfl (lv_at hl 1 rfl) ?_
      refine lv_bipush (v := (-6)) S.1 S.2.1 dX5_readFactor_17 rfl ?_
      refine lv_aload_n S.1 S.2.1 dX5_readFactor_19 rfl (lv_at hl 1 rfl) ?_
      refine gfX5_4 S iX5 hK hP (h11 4 (by decide)) k6 dX5_readFactor_20 ?_
      refine R_cVi (As := [.int (-6 : Int32), .int (I_1 11 4 4)]) (rest := []) S (c_X5_fail (h11 := h11) (hG := hG)  hf) gX5_readFactor_X5_fail rfl yk_X5_fail ⟨⟨by dsimp only [rmX5_fail, rmX5_readFactor]; omega, by dsimp only [rmX5_fail, rmX5_readFactor]; omega⟩, rfl, rfl⟩ hK hP hD hS hX hA (h11 4 (by decide)) (cF_o E _ _ 4) rfl rfl hl.1 rfl (Nat.le_of_ble_eq_true rfl) ⟨Nat.zero_le _, Nat.zero_le _⟩ dX5_readFactor_23 (fun v_41 I_39 J_40 H locs hf hP hD hS => ?_)
      obtain ⟨h_42, hf⟩ := hf
      exact hret hf h_42.1 hP hD hS dX5_readFactor_26
def f_X5_readSum_J101 (rs : Int32 → MI → MJ → (Int32 → MI → MJ → Prop) → Prop) (K128 : MI → MJ → Prop) (K35 : MI → MJ → Prop) (K106 : MI → MJ → Prop) (rec19 : Int32 → Int32 → Int32 → MI → MJ → Prop) (x1_1 : Int32) (x3_41 : Int32) (x4_42 : Int32) (x5_43 : Int32) (x6_44 : Int32) (x7_45 : Int32) (I_46 : MI) (J_47 : MJ) : Prop :=
  ((x6_44 = (0 : Int32) → K106 I_46 J_47) ∧ (¬ x6_44 = (0 : Int32) → ((x7_45 = (0 : Int32) → ∀ x5_50 : Int32, x5_50 = x5_43 + (1 : Int32) → rec19 x3_41 x6_44 x5_50 I_46 J_47) ∧ (¬ x7_45 = (0 : Int32) → ∀ x5_51 : Int32, x5_51 = x5_43 + (1 : Int32) → rec19 x3_41 x4_42 x5_51 I_46 J_47))))
def f_X5_readSum_J84 (rs : Int32 → MI → MJ → (Int32 → MI → MJ → Prop) → Prop) (K128 : MI → MJ → Prop) (K35 : MI → MJ → Prop) (K106 : MI → MJ → Prop) (rec19 : Int32 → Int32 → Int32 → MI → MJ → Prop) (x1_1 : Int32) (x4_33 : Int32) (x5_34 : Int32) (x6_35 : Int32) (x7_36 : Int32) (s_37 : Int32) (I_38 : MI) (J_39 : MJ) : Prop :=
  ((x7_36 = (0 : Int32) → ((x4_33 = (0 : Int32) → f_X5_readSum_J101 rs K128 K35 K106 rec19 x1_1 s_37 x4_33 x5_34 x6_35 x7_36 I_38 J_39) ∧ (¬ x4_33 = (0 : Int32) → f_X3_add 10 x4_33 I_38 J_39 (fun (I_53 : MI) (J_54 : MJ) => f_X5_readSum_J101 rs K128 K35 K106 rec19 x1_1 s_37 x4_33 x5_34 x6_35 x7_36 I_53 J_54)))) ∧ (¬ x7_36 = (0 : Int32) → f_X5_readSum_J101 rs K128 K35 K106 rec19 x1_1 s_37 x4_33 x5_34 x6_35 x7_36 I_38 J_39))
def f_X5_readSum_J71 (rs : Int32 → MI → MJ → (Int32 → MI → MJ → Prop) → Prop) (K128 : MI → MJ → Prop) (K35 : MI → MJ → Prop) (K106 : MI → MJ → Prop) (rec19 : Int32 → Int32 → Int32 → MI → MJ → Prop) (x1_1 : Int32) (x4_26 : Int32) (x5_27 : Int32) (x6_28 : Int32) (s_29 : Int32) (I_30 : MI) (J_31 : MJ) : Prop :=
  ((s_29 = (0 : Int32) → f_X5_readSum_J84 rs K128 K35 K106 rec19 x1_1 x4_26 x5_27 x6_28 s_29 (0 : Int32) I_30 J_31) ∧ (¬ s_29 = (0 : Int32) → f_X5_readSum_J84 rs K128 K35 K106 rec19 x1_1 x4_26 x5_27 x6_28 s_29 x6_28 I_30 J_31))
def f_X5_readSum_J66 (rs : Int32 → MI → MJ → (Int32 → MI → MJ → Prop) → Prop) (K128 : MI → MJ → Prop) (K35 : MI → MJ → Prop) (K106 : MI → MJ → Prop) (rec19 : Int32 → Int32 → Int32 → MI → MJ → Prop) (x1_1 : Int32) (x4_21 : Int32) (x5_22 : Int32) (x6_23 : Int32) (I_24 : MI) (J_25 : MJ) : Prop :=
  f_X5_readSum_J71 rs K128 K35 K106 rec19 x1_1 x4_21 x5_22 x6_23 (1 : Int32) I_24 J_25
def f_X5_readSum_J46 (rs : Int32 → MI → MJ → (Int32 → MI → MJ → Prop) → Prop) (K128 : MI → MJ → Prop) (K35 : MI → MJ → Prop) (K106 : MI → MJ → Prop) (rec19 : Int32 → Int32 → Int32 → MI → MJ → Prop) (x1_1 : Int32) (x4_13 : Int32) (x5_14 : Int32) (I_15 : MI) (J_16 : MJ) : Prop :=
  f_X5_takeOperator I_15 J_16 (fun (v_19 : Int32) (I_17 : MI) (J_18 : MJ) => ((v_19 = (-9 : Int32) → f_X5_readSum_J66 rs K128 K35 K106 rec19 x1_1 x4_13 x5_14 v_19 I_17 J_18) ∧ (¬ v_19 = (-9 : Int32) → ((v_19 = (-10 : Int32) → f_X5_readSum_J66 rs K128 K35 K106 rec19 x1_1 x4_13 x5_14 v_19 I_17 J_18) ∧ (¬ v_19 = (-10 : Int32) → f_X5_readSum_J71 rs K128 K35 K106 rec19 x1_1 x4_13 x5_14 v_19 (0 : Int32) I_17 J_18)))))
def f_X5_readSum_B19 (rs : Int32 → MI → MJ → (Int32 → MI → MJ → Prop) → Prop) (x1_1 : Int32) (K128 : MI → MJ → Prop) (K35 : MI → MJ → Prop) (K106 : MI → MJ → Prop) (rec19 : Int32 → Int32 → Int32 → MI → MJ → Prop) (x3_2 : Int32) (x4_3 : Int32) (x5_4 : Int32) (I_5 : MI) (J_6 : MJ) : Prop :=
  (((600 : Int32) ≤ x5_4 → K128 I_5 J_6) ∧ (¬ (600 : Int32) ≤ x5_4 → f_X5_readFactor rs x1_1 I_5 J_6 (fun (v_10 : Int32) (I_8 : MI) (J_9 : MJ) => ((v_10 = (0 : Int32) → K35 I_8 J_9) ∧ (¬ v_10 = (0 : Int32) → ((x3_2 = (0 : Int32) → f_X5_readSum_J46 rs K128 K35 K106 rec19 x1_1 x4_3 x5_4 I_8 J_9) ∧ (¬ x3_2 = (0 : Int32) → f_X3_add 10 x3_2 I_8 J_9 (fun (I_56 : MI) (J_57 : MJ) => f_X5_readSum_J46 rs K128 K35 K106 rec19 x1_1 x4_3 x5_4 I_56 J_57))))))))
def f_X5_readSum_L19 (rs : Int32 → MI → MJ → (Int32 → MI → MJ → Prop) → Prop) (x1_1 : Int32) (K128 : MI → MJ → Prop) (K35 : MI → MJ → Prop) (K106 : MI → MJ → Prop) : Nat → Int32 → Int32 → Int32 → MI → MJ → Prop
  | 0, _, _, _, _, _ => False
  | n + 1, x3_2, x4_3, x5_4, I_5, J_6 => f_X5_readSum_B19 rs x1_1 K128 K35 K106 (f_X5_readSum_L19 rs x1_1 K128 K35 K106 n) x3_2 x4_3 x5_4 I_5 J_6
def f_X5_readSum_S (rs : Int32 → MI → MJ → (Int32 → MI → MJ → Prop) → Prop) (x1 : Int32) (I : MI) (J : MJ) (Q : Int32 → MI → MJ → Prop) : Prop :=
  ∃ n : Nat, f_X5_readSum_L19 rs x1 (fun (I_58 : MI) (J_59 : MJ) => Q (1 : Int32) I_58 J_59) (fun (I_60 : MI) (J_61 : MJ) => Q (0 : Int32) I_60 J_61) (fun (I_62 : MI) (J_63 : MJ) => Q (1 : Int32) I_62 J_63) n (0 : Int32) (0 : Int32) (0 : Int32) I J
set_option maxRecDepth 100000 in
set_option maxHeartbeats 4000000 in
theorem c_X5_readSum_S {d : Nat} {rs : Int32 → MI → MJ → (Int32 → MI → MJ → Prop) → Prop} {l : Launch} {E : EV} {ps : List (Nat × Nat)} (hrs : ∀ {x1 : Int32} {I : MI} {J : MJ} {Q : Int32 → MI → MJ → Prop}, rs x1 I J Q → KI l yX5_readSum wsX5_readSum (rmX5_readSum d) E ps [.ref (eA E 11 4), .int x1] I J Q) (h11 : ∀ r, r < 11 → (11, r) ∈ ps) (hG : ∀ k r, k < 11 → r < 16 → (k, r) ∈ ps) {x1 : Int32} {I : MI} {J : MJ} {Q : Int32 → MI → MJ → Prop} (hf : f_X5_readSum_S rs x1 I J Q) : KI l yX5_readSum wsX5_readSum (rmX5_readSum (d + 1)) E ps [.ref (eA E 11 4), .int x1] I J Q := by
  refine K_ofI (cc := cX5_readSum) (maxL := 8) (ty := .boolean) (by decide +kernel) rfl (Nat.le_of_ble_eq_true rfl) (fun p e s m args below meth c Qm hret S hK hX => ?_)
  have hA : ∀ q, s.heap.size ≤ q → AA E ps s.heap.size q := fun _ h => Or.inr h
  have k1 := S.2.2.2.2 (.fieldLink RX5 12 "RhymeRoofs$SetupReader" "game" "LRhymeRoofs$Game;") (by decide +kernel)
  have iX5 : ∀ w ∈ wsX50, w ∈ wsX5_readSum := fun _ h => List.mem_cons_of_mem _ (List.mem_append_left _ (List.mem_append_left _ (List.mem_append_left _ (List.mem_append_right _ h))))
  have k2 := S.2.2.2.2 (.fieldLink RX5 115 "RhymeRoofs$Game" "rules" "LRhymeRoofs$Rules;") (by decide +kernel)
  have iX1 : ∀ w ∈ wsX10, w ∈ wsX5_readSum := fun _ h => List.mem_cons_of_mem _ (List.mem_append_left _ (List.mem_append_left _ (List.mem_append_right _ h)))
  have k3 := S.2.2.2.2 (.fieldLink RX5 162 "RhymeRoofs$Rules" "rank" "LRhymeRoofs$Rank;") (by decide +kernel)
  have iX4 : ∀ w ∈ wsX40, w ∈ wsX5_readSum := fun _ h => List.mem_cons_of_mem _ (List.mem_append_left _ (List.mem_append_right _ h))
  intro H locs ls hP hD hS hl
  unfold f_X5_readSum_S at hf
  refine lv_aload_n S.1 S.2.1 dX5_readSum_0 rfl (lv_at hl 0 rfl) ?_
  refine gfX5_0 S iX5 hK hP (h11 4 (by decide)) k1 dX5_readSum_1 ?_
  refine gfX1_0 S iX1 hK hP (by decide) ((fun r => hG 10 r (by decide)) 0 (by decide)) k2 dX5_readSum_4 ?_
  refine gfX4_2 S iX4 hK hP (by decide) ((fun r => hG 10 r (by decide)) 1 (by decide)) k3 dX5_readSum_7 ?_
  refine lv_astore_n (lv' := [(2, .ref (eA E 10 2)), (0, .ref (eA E 11 4)), (1, .int x1)]) S.1 S.2.1 dX5_readSum_10 rfl hl (by decide) rfl (fun ls hl => ?_)
  refine lv_iconst (v := 0) S.1 S.2.1 dX5_readSum_11 rfl ?_
  refine lv_istore_n (lv' := [(3, .int (0 : Int32)), (2, .ref (eA E 10 2)), (0, .ref (eA E 11 4)), (1, .int x1)]) S.1 S.2.1 dX5_readSum_12 rfl hl (by decide) rfl (fun ls hl => ?_)
  refine lv_iconst (v := 0) S.1 S.2.1 dX5_readSum_13 rfl ?_
  refine lv_istore (lv' := [(4, .int (0 : Int32)), (3, .int (0 : Int32)), (2, .ref (eA E 10 2)), (0, .ref (eA E 11 4)), (1, .int x1)]) S.1 S.2.1 dX5_readSum_14 hl (by decide) rfl (fun ls hl => ?_)
  refine lv_iconst (v := 0) S.1 S.2.1 dX5_readSum_16 rfl ?_
  refine lv_istore (lv' := [(5, .int (0 : Int32)), (4, .int (0 : Int32)), (3, .int (0 : Int32)), (2, .ref (eA E 10 2)), (0, .ref (eA E 11 4)), (1, .int x1)]) S.1 S.2.1 dX5_readSum_17 hl (by decide) rfl (fun ls hl => ?_)
  obtain ⟨n_64, hf⟩ := hf
  have L19 : ∀ (x1_1 : Int32), ∀ (K128 : MI → MJ → Prop), ∀ (K35 : MI → MJ → Prop), ∀ (K106 : MI → MJ → Prop), (∀ (I_58 : MI) (J_59 : MJ), K128 I_58 J_59 → Wj p l e (rmX5_readSum (d + 1)) s m args below meth c Qm E ps 8 I_58 J_59 128 [] []) → (∀ (I_60 : MI) (J_61 : MJ), K35 I_60 J_61 → Wj p l e (rmX5_readSum (d + 1)) s m args below meth c Qm E ps 8 I_60 J_61 35 [] []) → (∀ (I_62 : MI) (J_63 : MJ), K106 I_62 J_63 → Wj p l e (rmX5_readSum (d + 1)) s m args below meth c Qm E ps 8 I_62 J_63 106 [] []) → ∀ (n : Nat) (x3_2 : Int32) (x4_3 : Int32) (x5_4 : Int32) (I_5 : MI) (J_6 : MJ), f_X5_readSum_L19 rs x1_1 K128 K35 K106 n x3_2 x4_3 x5_4 I_5 J_6 → Wj p l e (rmX5_readSum (d + 1)) s m args below meth c Qm E ps 8 I_5 J_6 19 [(0, .ref (eA E 11 4)), (1, .int x1_1), (2, .ref (eA E 10 2)), (3, .int x3_2), (4, .int x4_3), (5, .int x5_4)] [] := by
    intro x1_1 K128 K35 K106 kx128 kx35 kx106 n
    induction n with
    | zero => intro x3_2 x4_3 x5_4 I_5 J_6 hf; exact hf.elim
    | succ n ih19 =>
      intro x3_2 x4_3 x5_4 I_5 J_6 hf
      have hf : f_X5_readSum_B19 rs x1_1 K128 K35 K106 (f_X5_readSum_L19 rs x1_1 K128 K35 K106 n) x3_2 x4_3 x5_4 I_5 J_6 := hf
      have jn101 : ∀ (x3_41 : Int32) (x4_42 : Int32) (x5_43 : Int32) (x6_44 : Int32) (x7_45 : Int32) (I_46 : MI) (J_47 : MJ), f_X5_readSum_J101 rs K128 K35 K106 (f_X5_readSum_L19 rs x1_1 K128 K35 K106 n) x1_1 x3_41 x4_42 x5_43 x6_44 x7_45 I_46 J_47 → Wj p l e (rmX5_readSum (d + 1)) s m args below meth c Qm E ps 8 I_46 J_47 101 [(0, .ref (eA E 11 4)), (1, .int x1_1), (2, .ref (eA E 10 2)), (3, .int x3_41), (4, .int x4_42), (5, .int x5_43), (6, .int x6_44), (7, .int x7_45)] [] := by
        intro x3_41 x4_42 x5_43 x6_44 x7_45 I_46 J_47 hf H locs ls hP hD hS hl
        unfold f_X5_readSum_J101 at hf
        refine lv_iload S.1 S.2.1 dX5_readSum_101 (lv_at hl 6 rfl) ?_
        refine lv_if_ne (tgt := 108) S.1 S.2.1 dX5_readSum_103 (by decide) (fun h_48 => ?_) (fun h_48 => ?_)
        · have hf := hf.2 h_48
          refine lv_iload S.1 S.2.1 dX5_readSum_108 (lv_at hl 7 rfl) ?_
          refine lv_if_eq (tgt := 118) S.1 S.2.1 dX5_readSum_110 (by decide) (fun h_49 => ?_) (fun h_49 => ?_)
          · have hf := hf.1 h_49
            refine lv_iload S.1 S.2.1 dX5_readSum_118 (lv_at hl 6 rfl) ?_
            refine lv_istore (lv' := [(4, .int x6_44), (0, .ref (eA E 11 4)), (1, .int x1_1), (2, .ref (eA E 10 2)), (3, .int x3_41), (5, .int x5_43), (6, .int x6_44), (7, .int x7_45)]) S.1 S.2.1 dX5_readSum_120 hl (by decide) rfl (fun ls hl => ?_)
            refine nm_o hf (fun x5_50 ex5_50 hf => ?_)
            refine lv_iinc (v := x5_50) (lv' := [(5, .int x5_50), (4, .int x6_44), (0, .ref (eA E 11 4)), (1, .int x1_1), (2, .ref (eA E 10 2)), (3, .int x3_41), (6, .int x6_44), (7, .int x7_45)]) S.1 S.2.1 dX5_readSum_122 hl (k := 5) rfl (by rw [ex5_50]; rfl) (by decide) rfl (fun ls hl => ?_)
            refine lv_goto (tgt := 19) S.1 S.2.1 dX5_readSum_125 (by decide) ?_
            exact ih19 _ _ _ _ _ hf _ _ _ hP hD hS (lv_sub hl [2, 3, 4, 5, 1, 0] rfl)
          · have hf := hf.2 h_49
            refine lv_iload S.1 S.2.1 dX5_readSum_113 (lv_at hl 4 rfl) ?_
            refine lv_goto (tgt := 120) S.1 S.2.1 dX5_readSum_115 (by decide) ?_
            refine lv_istore (lv' := [(4, .int x4_42), (0, .ref (eA E 11 4)), (1, .int x1_1), (2, .ref (eA E 10 2)), (3, .int x3_41), (5, .int x5_43), (6, .int x6_44), (7, .int x7_45)]) S.1 S.2.1 dX5_readSum_120 hl (by decide) rfl (fun ls hl => ?_)
            refine nm_o hf (fun x5_51 ex5_51 hf => ?_)
            refine lv_iinc (v := x5_51) (lv' := [(5, .int x5_51), (4, .int x4_42), (0, .ref (eA E 11 4)), (1, .int x1_1), (2, .ref (eA E 10 2)), (3, .int x3_41), (6, .int x6_44), (7, .int x7_45)]) S.1 S.2.1 dX5_readSum_122 hl (k := 5) rfl (by rw [ex5_51]; rfl) (by decide) rfl (fun ls hl => ?_)
            refine lv_goto (tgt := 19) S.1 S.2.1 dX5_readSum_125 (by decide) ?_
            exact ih19 _ _ _ _ _ hf _ _ _ hP hD hS (lv_sub hl [2, 3, 4, 5, 1, 0] rfl)
        · have hf := hf.1 h_48
          exact kx106 _ _ hf _ _ _ hP hD hS (lv_sub hl [] rfl)
      have jn84 : ∀ (x4_33 : Int32) (x5_34 : Int32) (x6_35 : Int32) (x7_36 : Int32) (s_37 : Int32) (I_38 : MI) (J_39 : MJ), f_X5_readSum_J84 rs K128 K35 K106 (f_X5_readSum_L19 rs x1_1 K128 K35 K106 n) x1_1 x4_33 x5_34 x6_35 x7_36 s_37 I_38 J_39 → Wj p l e (rmX5_readSum (d + 1)) s m args below meth c Qm E ps 8 I_38 J_39 84 [(0, .ref (eA E 11 4)), (1, .int x1_1), (2, .ref (eA E 10 2)), (4, .int x4_33), (5, .int x5_34), (6, .int x6_35), (7, .int x7_36)] [.int s_37] := by
        intro x4_33 x5_34 x6_35 x7_36 s_37 I_38 J_39 hf H locs ls hP hD hS hl
        unfold f_X5_readSum_J84 at hf
        refine lv_istore_n (lv' := [(3, .int s_37), (0, .ref (eA E 11 4)), (1, .int x1_1), (2, .ref (eA E 10 2)), (4, .int x4_33), (5, .int x5_34), (6, .int x6_35), (7, .int x7_36)]) S.1 S.2.1 dX5_readSum_84 rfl hl (by decide) rfl (fun ls hl => ?_)
        refine lv_iload S.1 S.2.1 dX5_readSum_85 (lv_at hl 7 rfl) ?_
        refine lv_if_ne (tgt := 101) S.1 S.2.1 dX5_readSum_87 (by decide) (fun h_40 => ?_) (fun h_40 => ?_)
        · have hf := hf.2 h_40
          exact jn101 _ _ _ _ _ _ _ hf _ _ _ hP hD hS (lv_sub hl [1, 2, 3, 0, 4, 5, 6, 7] rfl)
        · have hf := hf.1 h_40
          refine lv_iload S.1 S.2.1 dX5_readSum_90 (lv_at hl 4 rfl) ?_
          refine lv_if_eq (tgt := 101) S.1 S.2.1 dX5_readSum_92 (by decide) (fun h_52 => ?_) (fun h_52 => ?_)
          · have hf := hf.1 h_52
            exact jn101 _ _ _ _ _ _ _ hf _ _ _ hP hD hS (lv_sub hl [1, 2, 3, 0, 4, 5, 6, 7] rfl)
          · have hf := hf.2 h_52
            refine lv_aload_n S.1 S.2.1 dX5_readSum_95 rfl (lv_at hl 3 rfl) ?_
            refine lv_iload S.1 S.2.1 dX5_readSum_96 (lv_at hl 4 rfl) ?_
            refine R_cVv (As := [.int x4_33]) (rest := []) S (c_X3_add (hB := (by decide)) (hM := (fun r => hG 10 r (by decide)))  hf) gX5_readSum_X3_add rfl yk_X3_add ⟨⟨by dsimp only [rmX3_add, rmX5_readSum]; omega, by dsimp only [rmX3_add, rmX5_readSum]; omega⟩, rfl, rfl⟩ hK hP hD hS hX hA ((fun r => hG 10 r (by decide)) 2 (by decide)) (cF_g E (by decide) _ _ 2) rfl rfl hl.1 rfl (Nat.le_of_ble_eq_true rfl) ⟨Nat.zero_le _, Nat.zero_le _⟩ dX5_readSum_98 (fun I_53 J_54 H locs hf hP hD hS => ?_)
            exact jn101 _ _ _ _ _ _ _ hf _ _ _ hP hD hS (lv_sub hl [1, 2, 3, 0, 4, 5, 6, 7] rfl)
      have jn71 : ∀ (x4_26 : Int32) (x5_27 : Int32) (x6_28 : Int32) (s_29 : Int32) (I_30 : MI) (J_31 : MJ), f_X5_readSum_J71 rs K128 K35 K106 (f_X5_readSum_L19 rs x1_1 K128 K35 K106 n) x1_1 x4_26 x5_27 x6_28 s_29 I_30 J_31 → Wj p l e (rmX5_readSum (d + 1)) s m args below meth c Qm E ps 8 I_30 J_31 71 [(0, .ref (eA E 11 4)), (1, .int x1_1), (2, .ref (eA E 10 2)), (4, .int x4_26), (5, .int x5_27), (6, .int x6_28)] [.int s_29] := by
        intro x4_26 x5_27 x6_28 s_29 I_30 J_31 hf H locs ls hP hD hS hl
        unfold f_X5_readSum_J71 at hf
        refine lv_istore (lv' := [(7, .int s_29), (0, .ref (eA E 11 4)), (1, .int x1_1), (2, .ref (eA E 10 2)), (4, .int x4_26), (5, .int x5_27), (6, .int x6_28)]) S.1 S.2.1 dX5_readSum_71 hl (by decide) rfl (fun ls hl => ?_)
        refine lv_iload S.1 S.2.1 dX5_readSum_73 (lv_at hl 0 rfl) ?_
        refine lv_if_eq (tgt := 83) S.1 S.2.1 dX5_readSum_75 (by decide) (fun h_32 => ?_) (fun h_32 => ?_)
        · have hf := hf.1 h_32
          refine lv_iconst (v := 0) S.1 S.2.1 dX5_readSum_83 rfl ?_
          exact jn84 _ _ _ _ _ _ _ hf _ _ _ hP hD hS (lv_sub hl [1, 2, 3, 4, 5, 6, 0] rfl)
        · have hf := hf.2 h_32
          refine lv_iload S.1 S.2.1 dX5_readSum_78 (lv_at hl 6 rfl) ?_
          refine lv_goto (tgt := 84) S.1 S.2.1 dX5_readSum_80 (by decide) ?_
          exact jn84 _ _ _ _ _ _ _ hf _ _ _ hP hD hS (lv_sub hl [1, 2, 3, 4, 5, 6, 0] rfl)
      have jn66 : ∀ (x4_21 : Int32) (x5_22 : Int32) (x6_23 : Int32) (I_24 : MI) (J_25 : MJ), f_X5_readSum_J66 rs K128 K35 K106 (f_X5_readSum_L19 rs x1_1 K128 K35 K106 n) x1_1 x4_21 x5_22 x6_23 I_24 J_25 → Wj p l e (rmX5_readSum (d + 1)) s m args below meth c Qm E ps 8 I_24 J_25 66 [(0, .ref (eA E 11 4)), (1, .int x1_1), (2, .ref (eA E 10 2)), (4, .int x4_21), (5, .int x5_22), (6, .int x6_23)] [] := by
        intro x4_21 x5_22 x6_23 I_24 J_25 hf H locs ls hP hD hS hl
        unfold f_X5_readSum_J66 at hf
        refine lv_iconst (v := 1) S.1 S.2.1 dX5_readSum_66 rfl ?_
        refine lv_goto (tgt := 71) S.1 S.2.1 dX5_readSum_67 (by decide) ?_
        exact jn71 _ _ _ _ _ _ hf _ _ _ hP hD hS (lv_sub hl [0, 1, 2, 3, 4, 5] rfl)
      have jn46 : ∀ (x4_13 : Int32) (x5_14 : Int32) (I_15 : MI) (J_16 : MJ), f_X5_readSum_J46 rs K128 K35 K106 (f_X5_readSum_L19 rs x1_1 K128 K35 K106 n) x1_1 x4_13 x5_14 I_15 J_16 → Wj p l e (rmX5_readSum (d + 1)) s m args below meth c Qm E ps 8 I_15 J_16 46 [(0, .ref (eA E 11 4)), (1, .int x1_1), (2, .ref (eA E 10 2)), (4, .int x4_13), (5, .int x5_14)] [] := by
        intro x4_13 x5_14 I_15 J_16 hf H locs ls hP hD hS hl
        unfold f_X5_readSum_J46 at hf
        refine lv_aload_n S.1 S.2.1 dX5_readSum_46 rfl (lv_at hl 0 rfl) ?_
        refine R_cVi (As := []) (rest := []) S (c_X5_takeOperator (h11 := h11) (hG := hG)  hf) gX5_readSum_X5_takeOperator rfl yk_X5_takeOperator ⟨⟨by dsimp only [rmX5_takeOperator, rmX5_readSum]; omega, by dsimp only [rmX5_takeOperator, rmX5_readSum]; omega⟩, rfl, rfl⟩ hK hP hD hS hX hA (h11 4 (by decide)) (cF_o E _ _ 4) rfl rfl hl.1 rfl (Nat.le_of_ble_eq_true rfl) ⟨Nat.zero_le _, Nat.zero_le _⟩ dX5_readSum_47 (fun v_19 I_17 J_18 H locs hf hP hD hS => ?_)
        refine lv_istore (lv' := [(6, .int v_19), (0, .ref (eA E 11 4)), (1, .int x1_1), (2, .ref (eA E 10 2)), (4, .int x4_13), (5, .int x5_14)]) S.1 S.2.1 dX5_readSum_50 hl (by decide) rfl (fun ls hl => ?_)
        refine lv_iload S.1 S.2.1 dX5_readSum_52 (lv_at hl 0 rfl) ?_
        refine lv_bipush (v := (-9)) S.1 S.2.1 dX5_readSum_54 rfl ?_
        refine lv_icmp_eq (tgt := 66) S.1 S.2.1 dX5_readSum_56 (by decide) (fun h_20 => ?_) (fun h_20 => ?_)
        · have hf := hf.1 h_20
          exact jn66 _ _ _ _ _ hf _ _ _ hP hD hS (lv_sub hl [1, 2, 3, 4, 5, 0] rfl)
        · have hf := hf.2 h_20
          refine lv_iload S.1 S.2.1 dX5_readSum_59 (lv_at hl 0 rfl) ?_
          refine lv_bipush (v := (-10)) S.1 S.2.1 dX5_readSum_61 rfl ?_
          refine lv_icmp_ne (tgt := 70) S.1 S.2.1 dX5_readSum_63 (by decide) (fun h_55 => ?_) (fun h_55 => ?_)
          · have hf := hf.2 h_55
            refine lv_iconst (v := 0) S.1 S.2.1 dX5_readSum_70 rfl ?_
            exact jn71 _ _ _ _ _ _ hf _ _ _ hP hD hS (lv_sub hl [1, 2, 3, 4, 5, 0] rfl)
          · have hf := hf.1 h_55
            exact jn66 _ _ _ _ _ hf _ _ _ hP hD hS (lv_sub hl [1, 2, 3, 4, 5, 0] rfl)
      intro H locs ls hP hD hS hl
      unfold f_X5_readSum_B19 at hf
      refine lv_iload S.1 S.2.1 dX5_readSum_19 (lv_at hl 5 rfl) ?_
      refine lv_sipush (v := 600) S.1 S.2.1 dX5_readSum_21 rfl ?_
      refine lv_icmp_ge (tgt := 128) S.1 S.2.1 dX5_readSum_24 (by decide) (fun h_7 => ?_) (fun h_7 => ?_)
      · have hf := hf.1 h_7
        exact kx128 _ _ hf _ _ _ hP hD hS (lv_sub hl [] rfl)
      · have hf := hf.2 h_7
        refine lv_aload_n S.1 S.2.1 dX5_readSum_27 rfl (lv_at hl 0 rfl) ?_
        refine lv_iload_n S.1 S.2.1 dX5_readSum_28 rfl (lv_at hl 1 rfl) ?_
        refine R_cVi (As := [.int x1_1]) (rest := []) S (c_X5_readFactor hrs (h11 := h11) (hG := hG)  hf) gX5_readSum_X5_readFactor rfl yk_X5_readFactor ⟨⟨by dsimp only [rmX5_readFactor, rmX5_readSum]; omega, by dsimp only [rmX5_readFactor, rmX5_readSum]; omega⟩, rfl, rfl⟩ hK hP hD hS hX hA (h11 4 (by decide)) (cF_o E _ _ 4) rfl rfl hl.1 rfl (Nat.le_of_ble_eq_true rfl) ⟨Nat.zero_le _, Nat.zero_le _⟩ dX5_readSum_29 (fun v_10 I_8 J_9 H locs hf hP hD hS => ?_)
        refine lv_if_ne (tgt := 37) S.1 S.2.1 dX5_readSum_32 (by decide) (fun h_11 => ?_) (fun h_11 => ?_)
        · have hf := hf.2 h_11
          refine lv_iload_n S.1 S.2.1 dX5_readSum_37 rfl (lv_at hl 3 rfl) ?_
          refine lv_if_eq (tgt := 46) S.1 S.2.1 dX5_readSum_38 (by decide) (fun h_12 => ?_) (fun h_12 => ?_)
          · have hf := hf.1 h_12
            exact jn46 _ _ _ _ hf _ _ _ hP hD hS (lv_sub hl [0, 1, 2, 4, 5] rfl)
          · have hf := hf.2 h_12
            refine lv_aload_n S.1 S.2.1 dX5_readSum_41 rfl (lv_at hl 2 rfl) ?_
            refine lv_iload_n S.1 S.2.1 dX5_readSum_42 rfl (lv_at hl 3 rfl) ?_
            refine R_cVv (As := [.int x3_2]) (rest := []) S (c_X3_add (hB := (by decide)) (hM := (fun r => hG 10 r (by decide)))  hf) gX5_readSum_X3_add rfl yk_X3_add ⟨⟨by dsimp only [rmX3_add, rmX5_readSum]; omega, by dsimp only [rmX3_add, rmX5_readSum]; omega⟩, rfl, rfl⟩ hK hP hD hS hX hA ((fun r => hG 10 r (by decide)) 2 (by decide)) (cF_g E (by decide) _ _ 2) rfl rfl hl.1 rfl (Nat.le_of_ble_eq_true rfl) ⟨Nat.zero_le _, Nat.zero_le _⟩ dX5_readSum_43 (fun I_56 J_57 H locs hf hP hD hS => ?_)
            exact jn46 _ _ _ _ hf _ _ _ hP hD hS (lv_sub hl [0, 1, 2, 4, 5] rfl)
        · have hf := hf.1 h_11
          exact kx35 _ _ hf _ _ _ hP hD hS (lv_sub hl [] rfl)
  refine L19 _ _ _ _ (fun I_58 J_59 hf H locs ls hP hD hS hl => ?_) (fun I_60 J_61 hf H locs ls hP hD hS hl => ?_) (fun I_62 J_63 hf H locs ls hP hD hS hl => ?_)  n_64 _ _ _ _ _ hf _ _ _ hP hD hS (lv_sub hl [4, 5, 3, 2, 1, 0] rfl)
  · refine lv_iconst (v := 1) S.1 S.2.1 dX5_readSum_128 rfl ?_
    exact hret hf rfl hP hD hS dX5_readSum_129
  · refine lv_iconst (v := 0) S.1 S.2.1 dX5_readSum_35 rfl ?_
    exact hret hf rfl hP hD hS dX5_readSum_36
  · refine lv_iconst (v := 1) S.1 S.2.1 dX5_readSum_106 rfl ?_
    exact hret hf rfl hP hD hS dX5_readSum_107
def f_X5_readSum : Nat → Int32 → MI → MJ → (Int32 → MI → MJ → Prop) → Prop
  | 0, _, _, _, _ => False
  | d + 1, x1, I, J, Q => f_X5_readSum_S (f_X5_readSum d) x1 I J Q
theorem c_X5_readSum {l : Launch} {E : EV} {ps : List (Nat × Nat)} (h11 : ∀ r, r < 11 → (11, r) ∈ ps) (hG : ∀ k r, k < 11 → r < 16 → (k, r) ∈ ps) : ∀ (d : Nat) {x1 : Int32} {I : MI} {J : MJ} {Q : Int32 → MI → MJ → Prop}, f_X5_readSum d x1 I J Q → KI l yX5_readSum wsX5_readSum (rmX5_readSum d) E ps [.ref (eA E 11 4), .int x1] I J Q
  | 0 => fun h => h.elim
  | d + 1 => fun h => c_X5_readSum_S (hrs := fun h2 => c_X5_readSum h11 hG d h2) (h11 := h11) (hG := hG) h
abbrev rmX5_readStatement : Room := { frames := 19, cells := 0, slots := 0, locals := 455 }
theorem yk_X5_readStatement : yOk yX5_readStatement RX5 0 := by unfold yOk; decide +kernel
def f_X5_readStatement (I : MI) (J : MJ) (Q : Int32 → MI → MJ → Prop) : Prop :=
  f_X5_runIs 1 I J (fun (v_3 : Int32) (I_1 : MI) (J_2 : MJ) => ((v_3 = (0 : Int32) → f_X5_runIs 2 I_1 J_2 (fun (v_7 : Int32) (I_5 : MI) (J_6 : MJ) => ((v_7 = (0 : Int32) → f_X5_runIs 3 I_5 J_6 (fun (v_11 : Int32) (I_9 : MI) (J_10 : MJ) => ((v_11 = (0 : Int32) → f_X5_runIs 4 I_9 J_10 (fun (v_15 : Int32) (I_13 : MI) (J_14 : MJ) => ((v_15 = (0 : Int32) → f_X5_runIs 5 I_13 J_14 (fun (v_19 : Int32) (I_17 : MI) (J_18 : MJ) => ((v_19 = (0 : Int32) → f_X5_runIs 6 I_17 J_18 (fun (v_23 : Int32) (I_21 : MI) (J_22 : MJ) => ((v_23 = (0 : Int32) → f_X5_runIs 7 I_21 J_22 (fun (v_27 : Int32) (I_25 : MI) (J_26 : MJ) => ((v_27 = (0 : Int32) → f_X5_fail (-2 : Int32) (I_25 11 4 7) I_25 J_26 (fun (v_31 : Int32) (I_29 : MI) (J_30 : MJ) => (bo v_31 ∧ Q v_31 I_29 J_30))) ∧ (¬ v_27 = (0 : Int32) → f_X3_clear 10 I_25 J_26 (fun (I_33 : MI) (J_34 : MJ) => f_X5_tellOnce (16 : Int32) I_33 J_34 (fun (v_37 : Int32) (I_35 : MI) (J_36 : MJ) => ((v_37 = (0 : Int32) → Q (0 : Int32) I_35 J_36) ∧ (¬ v_37 = (0 : Int32) → f_X5_readSum 6 (0 : Int32) I_35 J_36 (fun (v_41 : Int32) (I_39 : MI) (J_40 : MJ) => ((v_41 = (0 : Int32) → Q (0 : Int32) I_39 J_40) ∧ (¬ v_41 = (0 : Int32) → Q (1 : Int32) I_39 J_40))))))))))) ∧ (¬ v_23 = (0 : Int32) → f_X5_readHand I_21 J_22 (fun (v_45 : Int32) (I_43 : MI) (J_44 : MJ) => (bo v_45 ∧ Q v_45 I_43 J_44)))))) ∧ (¬ v_19 = (0 : Int32) → f_X5_readAlike I_17 J_18 (fun (v_49 : Int32) (I_47 : MI) (J_48 : MJ) => (bo v_49 ∧ Q v_49 I_47 J_48)))))) ∧ (¬ v_15 = (0 : Int32) → f_X5_readCrown I_13 J_14 (fun (v_53 : Int32) (I_51 : MI) (J_52 : MJ) => (bo v_53 ∧ Q v_53 I_51 J_52)))))) ∧ (¬ v_11 = (0 : Int32) → f_X5_readBonus I_9 J_10 (fun (v_57 : Int32) (I_55 : MI) (J_56 : MJ) => (bo v_57 ∧ Q v_57 I_55 J_56)))))) ∧ (¬ v_7 = (0 : Int32) → f_X5_readNeed I_5 J_6 (fun (v_61 : Int32) (I_59 : MI) (J_60 : MJ) => (bo v_61 ∧ Q v_61 I_59 J_60)))))) ∧ (¬ v_3 = (0 : Int32) → f_X5_readPlayers I_1 J_2 (fun (v_65 : Int32) (I_63 : MI) (J_64 : MJ) => (bo v_65 ∧ Q v_65 I_63 J_64)))))
set_option maxRecDepth 100000 in
set_option maxHeartbeats 4000000 in
theorem c_X5_readStatement {l : Launch} {E : EV} {ps : List (Nat × Nat)} (h11 : ∀ r, r < 11 → (11, r) ∈ ps) (hG : ∀ k r, k < 11 → r < 16 → (k, r) ∈ ps) {I : MI} {J : MJ} {Q : Int32 → MI → MJ → Prop} (hf : f_X5_readStatement I J Q) : KI l yX5_readStatement wsX5_readStatement rmX5_readStatement E ps [.ref (eA E 11 4)] I J Q := by
  refine K_ofI (cc := cX5_readStatement) (maxL := 1) (ty := .boolean) (by decide +kernel) rfl (Nat.le_of_ble_eq_true rfl) (fun p e s m args below meth c Qm hret S hK hX => ?_)
  have hA : ∀ q, s.heap.size ≤ q → AA E ps s.heap.size q := fun _ h => Or.inr h
  have k1 := S.2.2.2.2 (.fieldLink RX5 85 "RhymeRoofs$SetupReader" "tokenStart" "I") (by decide +kernel)
  have iX5 : ∀ w ∈ wsX50, w ∈ wsX5_readStatement := fun _ h => List.mem_cons_of_mem _ (List.mem_append_left _ (List.mem_append_left _ (List.mem_append_left _ (List.mem_append_right _ h))))
  have k2 := S.2.2.2.2 (.fieldLink RX5 12 "RhymeRoofs$SetupReader" "game" "LRhymeRoofs$Game;") (by decide +kernel)
  have k3 := S.2.2.2.2 (.fieldLink RX5 115 "RhymeRoofs$Game" "rules" "LRhymeRoofs$Rules;") (by decide +kernel)
  have iX1 : ∀ w ∈ wsX10, w ∈ wsX5_readStatement := fun _ h => List.mem_cons_of_mem _ (List.mem_append_left _ (List.mem_append_left _ (List.mem_append_right _ h)))
  have k4 := S.2.2.2.2 (.fieldLink RX5 162 "RhymeRoofs$Rules" "rank" "LRhymeRoofs$Rank;") (by decide +kernel)
  have iX4 : ∀ w ∈ wsX40, w ∈ wsX5_readStatement := fun _ h => List.mem_cons_of_mem _ (List.mem_append_left _ (List.mem_append_right _ h))
  intro H locs ls hP hD hS hl
  unfold f_X5_readStatement at hf
  refine lv_aload_n S.1 S.2.1 dX5_readStatement_0 rfl (lv_at hl 0 rfl) ?_
  refine va_ldcS S.1 S.2.1 S.2.2.2.1 (hX.2.2.2.2.2.1 _ sxrX5_130) dX5_readStatement_1 ?_
  refine R_cVi (As := [.ref (eK E 1)]) (rest := []) S (c_X5_runIs (h11 := h11) (hG := hG) (hw := (by decide)) hf) gX5_readStatement_X5_runIs rfl yk_X5_runIs ⟨⟨Nat.le_of_ble_eq_true rfl, Nat.le_of_ble_eq_true rfl⟩, rfl, rfl⟩ hK hP hD hS hX hA (h11 4 (by decide)) (cF_o E _ _ 4) rfl rfl hl.1 rfl (Nat.le_of_ble_eq_true rfl) ⟨Nat.zero_le _, Nat.zero_le _⟩ dX5_readStatement_3 (fun v_3 I_1 J_2 H locs hf hP hD hS => ?_)
  refine lv_if_eq (tgt := 14) S.1 S.2.1 dX5_readStatement_6 (by decide) (fun h_4 => ?_) (fun h_4 => ?_)
  · have hf := hf.1 h_4
    refine lv_aload_n S.1 S.2.1 dX5_readStatement_14 rfl (lv_at hl 0 rfl) ?_
    refine va_ldcS S.1 S.2.1 S.2.2.2.1 (hX.2.2.2.2.2.1 _ sxrX5_135) dX5_readStatement_15 ?_
    refine R_cVi (As := [.ref (eK E 2)]) (rest := []) S (c_X5_runIs (h11 := h11) (hG := hG) (hw := (by decide)) hf) gX5_readStatement_X5_runIs rfl yk_X5_runIs ⟨⟨Nat.le_of_ble_eq_true rfl, Nat.le_of_ble_eq_true rfl⟩, rfl, rfl⟩ hK hP hD hS hX hA (h11 4 (by decide)) (cF_o E _ _ 4) rfl rfl hl.1 rfl (Nat.le_of_ble_eq_true rfl) ⟨Nat.zero_le _, Nat.zero_le _⟩ dX5_readStatement_17 (fun v_7 I_5 J_6 H locs hf hP hD hS => ?_)
    refine lv_if_eq (tgt := 28) S.1 S.2.1 dX5_readStatement_20 (by decide) (fun h_8 => ?_) (fun h_8 => ?_)
    · have hf := hf.1 h_8
      refine lv_aload_n S.1 S.2.1 dX5_readStatement_28 rfl (lv_at hl 0 rfl) ?_
      refine va_ldcS S.1 S.2.1 S.2.2.2.1 (hX.2.2.2.2.2.1 _ sxrX5_140) dX5_readStatement_29 ?_
      refine R_cVi (As := [.ref (eK E 3)]) (rest := []) S (c_X5_runIs (h11 := h11) (hG := hG) (hw := (by decide)) hf) gX5_readStatement_X5_runIs rfl yk_X5_runIs ⟨⟨Nat.le_of_ble_eq_true rfl, Nat.le_of_ble_eq_true rfl⟩, rfl, rfl⟩ hK hP hD hS hX hA (h11 4 (by decide)) (cF_o E _ _ 4) rfl rfl hl.1 rfl (Nat.le_of_ble_eq_true rfl) ⟨Nat.zero_le _, Nat.zero_le _⟩ dX5_readStatement_31 (fun v_11 I_9 J_10 H locs hf hP hD hS => ?_)
      refine lv_if_eq (tgt := 42) S.1 S.2.1 dX5_readStatement_34 (by decide) (fun h_12 => ?_) (fun h_12 => ?_)
      · have hf := hf.1 h_12
        refine lv_aload_n S.1 S.2.1 dX5_readStatement_42 rfl (lv_at hl 0 rfl) ?_
        refine va_ldcS S.1 S.2.1 S.2.2.2.1 (hX.2.2.2.2.2.1 _ sxrX5_145) dX5_readStatement_43 ?_
        refine R_cVi (As := [.ref (eK E 4)]) (rest := []) S (c_X5_runIs (h11 := h11) (hG := hG) (hw := (by decide)) hf) gX5_readStatement_X5_runIs rfl yk_X5_runIs ⟨⟨Nat.le_of_ble_eq_true rfl, Nat.le_of_ble_eq_true rfl⟩, rfl, rfl⟩ hK hP hD hS hX hA (h11 4 (by decide)) (cF_o E _ _ 4) rfl rfl hl.1 rfl (Nat.le_of_ble_eq_true rfl) ⟨Nat.zero_le _, Nat.zero_le _⟩ dX5_readStatement_45 (fun v_15 I_13 J_14 H locs hf hP hD hS => ?_)
        refine lv_if_eq (tgt := 56) S.1 S.2.1 dX5_readStatement_48 (by decide) (fun h_16 => ?_) (fun h_16 => ?_)
        · have hf := hf.1 h_16
          refine lv_aload_n S.1 S.2.1 dX5_readStatement_56 rfl (lv_at hl 0 rfl) ?_
          refine va_ldcS S.1 S.2.1 S.2.2.2.1 (hX.2.2.2.2.2.1 _ sxrX5_150) dX5_readStatement_57 ?_
          refine R_cVi (As := [.ref (eK E 5)]) (rest := []) S (c_X5_runIs (h11 := h11) (hG := hG) (hw := (by decide)) hf) gX5_readStatement_X5_runIs rfl yk_X5_runIs ⟨⟨Nat.le_of_ble_eq_true rfl, Nat.le_of_ble_eq_true rfl⟩, rfl, rfl⟩ hK hP hD hS hX hA (h11 4 (by decide)) (cF_o E _ _ 4) rfl rfl hl.1 rfl (Nat.le_of_ble_eq_true rfl) ⟨Nat.zero_le _, Nat.zero_le _⟩ dX5_readStatement_59 (fun v_19 I_17 J_18 H locs hf hP hD hS => ?_)
          refine lv_if_eq (tgt := 70) S.1 S.2.1 dX5_readStatement_62 (by decide) (fun h_20 => ?_) (fun h_20 => ?_)
          · have hf := hf.1 h_20
            refine lv_aload_n S.1 S.2.1 dX5_readStatement_70 rfl (lv_at hl 0 rfl) ?_
            refine va_ldcS S.1 S.2.1 S.2.2.2.1 (hX.2.2.2.2.2.1 _ sxrX5_155) dX5_readStatement_71 ?_
            refine R_cVi (As := [.ref (eK E 6)]) (rest := []) S (c_X5_runIs (h11 := h11) (hG := hG) (hw := (by decide)) hf) gX5_readStatement_X5_runIs rfl yk_X5_runIs ⟨⟨Nat.le_of_ble_eq_true rfl, Nat.le_of_ble_eq_true rfl⟩, rfl, rfl⟩ hK hP hD hS hX hA (h11 4 (by decide)) (cF_o E _ _ 4) rfl rfl hl.1 rfl (Nat.le_of_ble_eq_true rfl) ⟨Nat.zero_le _, Nat.zero_le _⟩ dX5_readStatement_73 (fun v_23 I_21 J_22 H locs hf hP hD hS => ?_)
            refine lv_if_eq (tgt := 84) S.1 S.2.1 dX5_readStatement_76 (by decide) (fun h_24 => ?_) (fun h_24 => ?_)
            · have hf := hf.1 h_24
              refine lv_aload_n S.1 S.2.1 dX5_readStatement_84 rfl (lv_at hl 0 rfl) ?_
              refine va_ldcS S.1 S.2.1 S.2.2.2.1 (hX.2.2.2.2.2.1 _ sxrX5_160) dX5_readStatement_85 ?_
              refine R_cVi (As := [.ref (eK E 7)]) (rest := []) S (c_X5_runIs (h11 := h11) (hG := hG) (hw := (by decide)) hf) gX5_readStatement_X5_runIs rfl yk_X5_runIs ⟨⟨Nat.le_of_ble_eq_true rfl, Nat.le_of_ble_eq_true rfl⟩, rfl, rfl⟩ hK hP hD hS hX hA (h11 4 (by decide)) (cF_o E _ _ 4) rfl rfl hl.1 rfl (Nat.le_of_ble_eq_true rfl) ⟨Nat.zero_le _, Nat.zero_le _⟩ dX5_readStatement_87 (fun v_27 I_25 J_26 H locs hf hP hD hS => ?_)
              refine lv_if_eq (tgt := 129) S.1 S.2.1 dX5_readStatement_90 (by decide) (fun h_28 => ?_) (fun h_28 => ?_)
              · have hf := hf.1 h_28
                refine lv_aload_n S.1 S.2.1 dX5_readStatement_129 rfl (lv_at hl 0 rfl) ?_
                refine lv_bipush (v := (-2)) S.1 S.2.1 dX5_readStatement_130 rfl ?_
                refine lv_aload_n S.1 S.2.1 dX5_readStatement_132 rfl (lv_at hl 0 rfl) ?_
                refine gfX5_7 S iX5 hK hP (h11 4 (by decide)) k1 dX5_readStatement_133 ?_
                refine R_cVi (As := [.int (-2 : Int32), .int (I_25 11 4 7)]) (rest := []) S (c_X5_fail (h11 := h11) (hG := hG)  hf) gX5_readStatement_X5_fail rfl yk_X5_fail ⟨⟨Nat.le_of_ble_eq_true rfl, Nat.le_of_ble_eq_true rfl⟩, rfl, rfl⟩ hK hP hD hS hX hA (h11 4 (by decide)) (cF_o E _ _ 4) rfl rfl hl.1 rfl (Nat.le_of_ble_eq_true rfl) ⟨Nat.zero_le _, Nat.zero_le _⟩ dX5_readStatement_136 (fun v_31 I_29 J_30 H locs hf hP hD hS => ?_)
                obtain ⟨h_32, hf⟩ := hf
                exact hret hf h_32.1 hP hD hS dX5_readStatement_139
              · have hf := hf.2 h_28
                refine lv_aload_n S.1 S.2.1 dX5_readStatement_93 rfl (lv_at hl 0 rfl) ?_
                refine gfX5_0 S iX5 hK hP (h11 4 (by decide)) k2 dX5_readStatement_94 ?_
                refine gfX1_0 S iX1 hK hP (by decide) ((fun r => hG 10 r (by decide)) 0 (by decide)) k3 dX5_readStatement_97 ?_
                refine gfX4_2 S iX4 hK hP (by decide) ((fun r => hG 10 r (by decide)) 1 (by decide)) k4 dX5_readStatement_100 ?_
                refine R_cVv (As := []) (rest := []) S (c_X3_clear (hB := (by decide)) (hM := (fun r => hG 10 r (by decide)))  hf) gX5_readStatement_X3_clear rfl yk_X3_clear ⟨⟨Nat.le_of_ble_eq_true rfl, Nat.le_of_ble_eq_true rfl⟩, rfl, rfl⟩ hK hP hD hS hX hA ((fun r => hG 10 r (by decide)) 2 (by decide)) (cF_g E (by decide) _ _ 2) rfl rfl hl.1 rfl (Nat.le_of_ble_eq_true rfl) ⟨Nat.zero_le _, Nat.zero_le _⟩ dX5_readStatement_103 (fun I_33 J_34 H locs hf hP hD hS => ?_)
                refine lv_aload_n S.1 S.2.1 dX5_readStatement_106 rfl (lv_at hl 0 rfl) ?_
                refine lv_bipush (v := 16) S.1 S.2.1 dX5_readStatement_107 rfl ?_
                refine R_cVi (As := [.int (16 : Int32)]) (rest := []) S (c_X5_tellOnce (h11 := h11) (hG := hG)  hf) gX5_readStatement_X5_tellOnce rfl yk_X5_tellOnce ⟨⟨Nat.le_of_ble_eq_true rfl, Nat.le_of_ble_eq_true rfl⟩, rfl, rfl⟩ hK hP hD hS hX hA (h11 4 (by decide)) (cF_o E _ _ 4) rfl rfl hl.1 rfl (Nat.le_of_ble_eq_true rfl) ⟨Nat.zero_le _, Nat.zero_le _⟩ dX5_readStatement_109 (fun v_37 I_35 J_36 H locs hf hP hD hS => ?_)
                refine lv_if_eq (tgt := 127) S.1 S.2.1 dX5_readStatement_112 (by decide) (fun h_38 => ?_) (fun h_38 => ?_)
                · have hf := hf.1 h_38
                  refine lv_iconst (v := 0) S.1 S.2.1 dX5_readStatement_127 rfl ?_
                  exact hret hf rfl hP hD hS dX5_readStatement_128
                · have hf := hf.2 h_38
                  refine lv_aload_n S.1 S.2.1 dX5_readStatement_115 rfl (lv_at hl 0 rfl) ?_
                  refine lv_iconst (v := 0) S.1 S.2.1 dX5_readStatement_116 rfl ?_
                  refine R_cVi (As := [.int (0 : Int32)]) (rest := []) S (c_X5_readSum 6 (h11 := h11) (hG := hG)  hf) gX5_readStatement_X5_readSum rfl yk_X5_readSum ⟨⟨Nat.le_of_ble_eq_true rfl, Nat.le_of_ble_eq_true rfl⟩, rfl, rfl⟩ hK hP hD hS hX hA (h11 4 (by decide)) (cF_o E _ _ 4) rfl rfl hl.1 rfl (Nat.le_of_ble_eq_true rfl) ⟨Nat.zero_le _, Nat.zero_le _⟩ dX5_readStatement_117 (fun v_41 I_39 J_40 H locs hf hP hD hS => ?_)
                  refine lv_if_eq (tgt := 127) S.1 S.2.1 dX5_readStatement_120 (by decide) (fun h_42 => ?_) (fun h_42 => ?_)
                  · have hf := hf.1 h_42
                    refine lv_iconst (v := 0) S.1 S.2.1 dX5_readStatement_127 rfl ?_
                    exact hret hf rfl hP hD hS dX5_readStatement_128
                  · have hf := hf.2 h_42
                    refine lv_iconst (v := 1) S.1 S.2.1 dX5_readStatement_123 rfl ?_
                    refine lv_goto (tgt := 128) S.1 S.2.1 dX5_readStatement_124 (by decide) ?_
                    exact hret hf rfl hP hD hS dX5_readStatement_128
            · have hf := hf.2 h_24
              refine lv_aload_n S.1 S.2.1 dX5_readStatement_79 rfl (lv_at hl 0 rfl) ?_
              refine R_cVi (As := []) (rest := []) S (c_X5_readHand (h11 := h11) (hG := hG)  hf) gX5_readStatement_X5_readHand rfl yk_X5_readHand ⟨⟨Nat.le_of_ble_eq_true rfl, Nat.le_of_ble_eq_true rfl⟩, rfl, rfl⟩ hK hP hD hS hX hA (h11 4 (by decide)) (cF_o E _ _ 4) rfl rfl hl.1 rfl (Nat.le_of_ble_eq_true rfl) ⟨Nat.zero_le _, Nat.zero_le _⟩ dX5_readStatement_80 (fun v_45 I_43 J_44 H locs hf hP hD hS => ?_)
              obtain ⟨h_46, hf⟩ := hf
              exact hret hf h_46.1 hP hD hS dX5_readStatement_83
          · have hf := hf.2 h_20
            refine lv_aload_n S.1 S.2.1 dX5_readStatement_65 rfl (lv_at hl 0 rfl) ?_
            refine R_cVi (As := []) (rest := []) S (c_X5_readAlike (h11 := h11) (hG := hG)  hf) gX5_readStatement_X5_readAlike rfl yk_X5_readAlike ⟨⟨Nat.le_of_ble_eq_true rfl, Nat.le_of_ble_eq_true rfl⟩, rfl, rfl⟩ hK hP hD hS hX hA (h11 4 (by decide)) (cF_o E _ _ 4) rfl rfl hl.1 rfl (Nat.le_of_ble_eq_true rfl) ⟨Nat.zero_le _, Nat.zero_le _⟩ dX5_readStatement_66 (fun v_49 I_47 J_48 H locs hf hP hD hS => ?_)
            obtain ⟨h_50, hf⟩ := hf
            exact hret hf h_50.1 hP hD hS dX5_readStatement_69
        · have hf := hf.2 h_16
          refine lv_aload_n S.1 S.2.1 dX5_readStatement_51 rfl (lv_at hl 0 rfl) ?_
          refine R_cVi (As := []) (rest := []) S (c_X5_readCrown (h11 := h11) (hG := hG)  hf) gX5_readStatement_X5_readCrown rfl yk_X5_readCrown ⟨⟨Nat.le_of_ble_eq_true rfl, Nat.le_of_ble_eq_true rfl⟩, rfl, rfl⟩ hK hP hD hS hX hA (h11 4 (by decide)) (cF_o E _ _ 4) rfl rfl hl.1 rfl (Nat.le_of_ble_eq_true rfl) ⟨Nat.zero_le _, Nat.zero_le _⟩ dX5_readStatement_52 (fun v_53 I_51 J_52 H locs hf hP hD hS => ?_)
          obtain ⟨h_54, hf⟩ := hf
          exact hret hf h_54.1 hP hD hS dX5_readStatement_55
      · have hf := hf.2 h_12
        refine lv_aload_n S.1 S.2.1 dX5_readStatement_37 rfl (lv_at hl 0 rfl) ?_
        refine R_cVi (As := []) (rest := []) S (c_X5_readBonus (h11 := h11) (hG := hG)  hf) gX5_readStatement_X5_readBonus rfl yk_X5_readBonus ⟨⟨Nat.le_of_ble_eq_true rfl, Nat.le_of_ble_eq_true rfl⟩, rfl, rfl⟩ hK hP hD hS hX hA (h11 4 (by decide)) (cF_o E _ _ 4) rfl rfl hl.1 rfl (Nat.le_of_ble_eq_true rfl) ⟨Nat.zero_le _, Nat.zero_le _⟩ dX5_readStatement_38 (fun v_57 I_55 J_56 H locs hf hP hD hS => ?_)
        obtain ⟨h_58, hf⟩ := hf
        exact hret hf h_58.1 hP hD hS dX5_readStatement_41
    · have hf := hf.2 h_8
      refine lv_aload_n S.1 S.2.1 dX5_readStatement_23 rfl (lv_at hl 0 rfl) ?_
      refine R_cVi (As := []) (rest := []) S (c_X5_readNeed (h11 := h11) (hG := hG)  hf) gX5_readStatement_X5_readNeed rfl yk_X5_readNeed ⟨⟨Nat.le_of_ble_eq_true rfl, Nat.le_of_ble_eq_true rfl⟩, rfl, rfl⟩ hK hP hD hS hX hA (h11 4 (by decide)) (cF_o E _ _ 4) rfl rfl hl.1 rfl (Nat.le_of_ble_eq_true rfl) ⟨Nat.zero_le _, Nat.zero_le _⟩ dX5_readStatement_24 (fun v_61 I_59 J_60 H locs hf hP hD hS => ?_)
      obtain ⟨h_62, hf⟩ := hf
      exact hret hf h_62.1 hP hD hS dX5_readStatement_27
  · have hf := hf.2 h_4
    refine lv_aload_n S.1 S.2.1 dX5_readStatement_9 rfl (lv_at hl 0 rfl) ?_
    refine R_cVi (As := []) (rest := []) S (c_X5_readPlayers (h11 := h11) (hG := hG)  hf) gX5_readStatement_X5_readPlayers rfl yk_X5_readPlayers ⟨⟨Nat.le_of_ble_eq_true rfl, Nat.le_of_ble_eq_true rfl⟩, rfl, rfl⟩ hK hP hD hS hX hA (h11 4 (by decide)) (cF_o E _ _ 4) rfl rfl hl.1 rfl (Nat.le_of_ble_eq_true rfl) ⟨Nat.zero_le _, Nat.zero_le _⟩ dX5_readStatement_10 (fun v_65 I_63 J_64 H locs hf hP hD hS => ?_)
    obtain ⟨h_66, hf⟩ := hf
    exact hret hf h_66.1 hP hD hS dX5_readStatement_13
abbrev rmX5_read : Room := { frames := 20, cells := 0, slots := 0, locals := 475 }
theorem yk_X5_read : yOk yX5_read RX5 2 := by unfold yOk; decide +kernel
def f_X5_read_B77 (K132 : MI → MJ → Prop) (rec77 : Int32 → Int32 → MI → MJ → Prop) (x3_15 : Int32) (x4_16 : Int32) (I_17 : MI) (J_18 : MJ) : Prop :=
  (((600 : Int32) ≤ x4_16 → K132 I_17 J_18) ∧ (¬ (600 : Int32) ≤ x4_16 → ((x3_15 = (0 : Int32) → K132 I_17 J_18) ∧ (¬ x3_15 = (0 : Int32) → f_X5_peek I_17 J_18 (fun (v_23 : Int32) (I_21 : MI) (J_22 : MJ) => ((v_23 = (-1 : Int32) → K132 I_21 J_22) ∧ (¬ v_23 = (-1 : Int32) → f_X5_readRun I_21 J_22 (fun (v_27 : Int32) (I_25 : MI) (J_26 : MJ) => ((v_27 = (0 : Int32) → ∀ x4_29 : Int32, x4_29 = x4_16 + (1 : Int32) → rec77 (0 : Int32) x4_29 I_25 J_26) ∧ (¬ v_27 = (0 : Int32) → f_X5_readStatement I_25 J_26 (fun (v_32 : Int32) (I_30 : MI) (J_31 : MJ) => ((v_32 = (0 : Int32) → ∀ x4_34 : Int32, x4_34 = x4_16 + (1 : Int32) → rec77 (0 : Int32) x4_34 I_30 J_31) ∧ (¬ v_32 = (0 : Int32) → f_X5_readSign (59 : Int32) I_30 J_31 (fun (v_37 : Int32) (I_35 : MI) (J_36 : MJ) => ((v_37 = (0 : Int32) → ∀ x4_39 : Int32, x4_39 = x4_16 + (1 : Int32) → rec77 (0 : Int32) x4_39 I_35 J_36) ∧ (¬ v_37 = (0 : Int32) → ∀ x4_40 : Int32, x4_40 = x4_16 + (1 : Int32) → rec77 (1 : Int32) x4_40 I_35 J_36))))))))))))))))
def f_X5_read_L77 (K132 : MI → MJ → Prop) : Nat → Int32 → Int32 → MI → MJ → Prop
  | 0, _, _, _, _ => False
  | n + 1, x3_15, x4_16, I_17, J_18 => f_X5_read_B77 K132 (f_X5_read_L77 K132 n) x3_15 x4_16 I_17 J_18
def f_X5_read (x2 : Int32) (I : MI) (J : MJ) (Q : Int32 → MI → MJ → Prop) : Prop :=
  ∀ I_1 : MI, I_1 = sI I 11 4 3 (if (if (600 : Int32) < (600 : Int32) then (600 : Int32) else (600 : Int32)) < x2 then (if (600 : Int32) < (600 : Int32) then (600 : Int32) else (600 : Int32)) else x2) → ((¬ (0 : Int32) < 0 ∧ ¬ (0 : Int32) < 0 ∧ ¬ (I_1 11 4 3) < 0 ∧ (0 : Int32).toNatClampNeg + (I_1 11 4 3).toNatClampNeg ≤ 600 ∧ (0 : Int32).toNatClampNeg + (I_1 11 4 3).toNatClampNeg ≤ 600) ∧ ∀ I_3 : MI, I_3 = rI I_1 11 5 (va_cpy (I_1 11 1) (I_1 11 5) (0 : Int32).toNatClampNeg (0 : Int32).toNatClampNeg (I_1 11 4 3).toNatClampNeg) → ∀ I_4 : MI, I_4 = sI I_3 11 4 4 (0 : Int32) → ∀ I_5 : MI, I_5 = sI I_4 11 4 5 (0 : Int32) → ∀ I_6 : MI, I_6 = sI I_5 11 4 1 (-1 : Int32) → ∀ I_7 : MI, I_7 = sI I_6 11 4 8 (0 : Int32) → ∀ I_8 : MI, I_8 = sI I_7 11 4 9 (0 : Int32) → ∀ I_9 : MI, I_9 = sI I_8 11 4 10 (0 : Int32) → f_X1_reset 10 I_9 J (fun (I_10 : MI) (J_11 : MJ) => f_X5_readRoof I_10 J_11 (fun (v_14 : Int32) (I_12 : MI) (J_13 : MJ) => ∃ n : Nat, f_X5_read_L77 (fun (I_41 : MI) (J_42 : MJ) => Q (I_41 11 4 5) I_41 J_42) n v_14 (0 : Int32) I_12 J_13)))
set_option maxRecDepth 100000 in
set_option maxHeartbeats 4000000 in
theorem c_X5_read {l : Launch} {E : EV} {ps : List (Nat × Nat)} (h11 : ∀ r, r < 11 → (11, r) ∈ ps) (hG : ∀ k r, k < 11 → r < 16 → (k, r) ∈ ps) {x2 : Int32} {I : MI} {J : MJ} {Q : Int32 → MI → MJ → Prop} (hf : f_X5_read x2 I J Q) : KI l yX5_read wsX5_read rmX5_read E ps [.ref (eA E 11 4), .ref (eA E 11 1), .int x2] I J Q := by
  refine K_ofI (cc := cX5_read) (maxL := 5) (ty := .int) (by decide +kernel) rfl (Nat.le_of_ble_eq_true rfl) (fun p e s m args below meth c Qm hret S hK hX => ?_)
  have hA : ∀ q, s.heap.size ≤ q → AA E ps s.heap.size q := fun _ h => Or.inr h
  have k1 := S.2.2.2.2 (.fieldLink RX5 22 "RhymeRoofs$SetupReader" "text" "[I") (by decide +kernel)
  have iX5 : ∀ w ∈ wsX50, w ∈ wsX5_read := fun _ h => List.mem_cons_of_mem _ (List.mem_append_left _ (List.mem_append_left _ (List.mem_append_left _ (List.mem_append_right _ h))))
  have k2 := S.2.2.2.2 (.methodLink RX5 26 Lib.Math.min.name) (by decide +kernel)
  have k3 := S.2.2.2.2 (.static Lib.Math.min.name) (by decide +kernel)
  have k4 := S.2.2.2.2 (.initialized "java/lang/Math") (by decide +kernel)
  have k5 := S.2.2.2.2 (.code Lib.Math.min.name Lib.Math.min.code 2 (some .int)) (by decide +kernel)
  have k6 := S.2.2.2.2 (.fieldLink RX5 32 "RhymeRoofs$SetupReader" "end" "I") (by decide +kernel)
  have k7 := S.2.2.2.2 (.methodLink RX5 35 arraycopyName) (by decide +kernel)
  have k8 := S.2.2.2.2 (.native arraycopyName) (by decide +kernel)
  have k9 := S.2.2.2.2 (.static arraycopyName) (by decide +kernel)
  have k10 := S.2.2.2.2 (.initialized "java/lang/System") (by decide +kernel)
  have k11 := S.2.2.2.2 (.fieldLink RX5 41 "RhymeRoofs$SetupReader" "at" "I") (by decide +kernel)
  have k12 := S.2.2.2.2 (.fieldLink RX5 44 "RhymeRoofs$SetupReader" "error" "I") (by decide +kernel)
  have k13 := S.2.2.2.2 (.fieldLink RX5 18 "RhymeRoofs$SetupReader" "errorAt" "I") (by decide +kernel)
  have k14 := S.2.2.2.2 (.fieldLink RX5 47 "RhymeRoofs$SetupReader" "told" "I") (by decide +kernel)
  have k15 := S.2.2.2.2 (.fieldLink RX5 50 "RhymeRoofs$SetupReader" "handTold" "Z") (by decide +kernel)
  have k16 := S.2.2.2.2 (.fieldLink RX5 54 "RhymeRoofs$SetupReader" "grouped" "I") (by decide +kernel)
  have k17 := S.2.2.2.2 (.fieldLink RX5 12 "RhymeRoofs$SetupReader" "game" "LRhymeRoofs$Game;") (by decide +kernel)
  intro H locs ls hP hD hS hl
  unfold f_X5_read at hf
  refine lv_aload_n S.1 S.2.1 dX5_read_0 rfl (lv_at hl 0 rfl) ?_
  refine lv_iload_n S.1 S.2.1 dX5_read_1 rfl (lv_at hl 2 rfl) ?_
  refine lv_aload_n S.1 S.2.1 dX5_read_2 rfl (lv_at hl 1 rfl) ?_
  refine R_alenI S.1 S.2.1 hK hP (h11 1 (by decide)) (IAo1 E) dX5_read_3 ?_
  refine lv_aload_n S.1 S.2.1 dX5_read_4 rfl (lv_at hl 0 rfl) ?_
  refine gfX5_2 S iX5 hK hP (h11 4 (by decide)) k1 dX5_read_5 ?_
  refine R_alenI S.1 S.2.1 hK hP (h11 5 (by decide)) (IAo5 E) dX5_read_8 ?_
  refine va_mmin S.1 S.2.1 (S.2.2.1.trans hl.1.symm) S.2.2.2.1 k2 k3 k4 k5 (Nat.le_of_ble_eq_true rfl) (Nat.le_of_ble_eq_true rfl) (Nat.zero_le _) (Nat.zero_le _) dX5_read_9 ?_
  refine va_mmin S.1 S.2.1 (S.2.2.1.trans hl.1.symm) S.2.2.2.1 k2 k3 k4 k5 (Nat.le_of_ble_eq_true rfl) (Nat.le_of_ble_eq_true rfl) (Nat.zero_le _) (Nat.zero_le _) dX5_read_12 ?_
  refine nm_o hf (fun I_1 eI_1 hf => ?_)
  refine pfX5_3 S iX5 hK hP hD hS (h11 4 (by decide)) k6 dX5_read_15 eI_1 (fun H locs hP hD hS => ?_)
  refine lv_aload_n S.1 S.2.1 dX5_read_18 rfl (lv_at hl 1 rfl) ?_
  refine lv_iconst (v := 0) S.1 S.2.1 dX5_read_19 rfl ?_
  refine lv_aload_n S.1 S.2.1 dX5_read_20 rfl (lv_at hl 0 rfl) ?_
  refine gfX5_2 S iX5 hK hP (h11 4 (by decide)) k1 dX5_read_21 ?_
  refine lv_iconst (v := 0) S.1 S.2.1 dX5_read_24 rfl ?_
  refine lv_aload_n S.1 S.2.1 dX5_read_25 rfl (lv_at hl 0 rfl) ?_
  refine gfX5_3 S iX5 hK hP (h11 4 (by decide)) k6 dX5_read_26 ?_
  obtain ⟨h_2, hf⟩ := hf
  refine nm_o hf (fun I_3 eI_3 hf => ?_)
  refine R_cpyI S (hl.1) k7 k8 k9 k10 hK hP hD hS (h11 1 (by decide)) (IAo1 E) (h11 5 (by decide)) (IAo5 E) h_2 (Nat.le_of_ble_eq_true rfl) (Nat.le_of_ble_eq_true rfl) dX5_read_29 eI_3 (fun H locs hP hD hS => ?_)
  refine lv_aload_n S.1 S.2.1 dX5_read_32 rfl (lv_at hl 0 rfl) ?_
  refine lv_iconst (v := 0) S.1 S.2.1 dX5_read_33 rfl ?_
  refine nm_o hf (fun I_4 eI_4 hf => ?_)
  refine pfX5_4 S iX5 hK hP hD hS (h11 4 (by decide)) k11 dX5_read_34 eI_4 (fun H locs hP hD hS => ?_)
  refine lv_aload_n S.1 S.2.1 dX5_read_37 rfl (lv_at hl 0 rfl) ?_
  refine lv_iconst (v := 0) S.1 S.2.1 dX5_read_38 rfl ?_
  refine nm_o hf (fun I_5 eI_5 hf => ?_)
  refine pfX5_5 S iX5 hK hP hD hS (h11 4 (by decide)) k12 dX5_read_39 eI_5 (fun H locs hP hD hS => ?_)
  refine lv_aload_n S.1 S.2.1 dX5_read_42 rfl (lv_at hl 0 rfl) ?_
  refine lv_iconst (v := (-1)) S.1 S.2.1 dX5_read_43 rfl ?_
  refine nm_o hf (fun I_6 eI_6 hf => ?_)
  refine pfX5_1 S iX5 hK hP hD hS (h11 4 (by decide)) k13 dX5_read_44 eI_6 (fun H locs hP hD hS => ?_)
  refine lv_aload_n S.1 S.2.1 dX5_read_47 rfl (lv_at hl 0 rfl) ?_
  refine lv_iconst (v := 0) S.1 S.2.1 dX5_read_48 rfl ?_
  refine nm_o hf (fun I_7 eI_7 hf => ?_)
  refine pfX5_8 S iX5 hK hP hD hS (h11 4 (by decide)) k14 dX5_read_49 eI_7 (fun H locs hP hD hS => ?_)
  refine lv_aload_n S.1 S.2.1 dX5_read_52 rfl (lv_at hl 0 rfl) ?_
  refine lv_iconst (v := 0) S.1 S.2.1 dX5_read_53 rfl ?_
  refine nm_o hf (fun I_8 eI_8 hf => ?_)
  refine pfX5_9 S iX5 hK hP hD hS (h11 4 (by decide)) k15 bo0 dX5_read_54 eI_8 (fun H locs hP hD hS => ?_)
  refine lv_aload_n S.1 S.2.1 dX5_read_57 rfl (lv_at hl 0 rfl) ?_
  refine lv_iconst (v := 0) S.1 S.2.1 dX5_read_58 rfl ?_
  refine nm_o hf (fun I_9 eI_9 hf => ?_)
  refine pfX5_10 S iX5 hK hP hD hS (h11 4 (by decide)) k16 dX5_read_59 eI_9 (fun H locs hP hD hS => ?_)
  refine lv_aload_n S.1 S.2.1 dX5_read_62 rfl (lv_at hl 0 rfl) ?_
  refine gfX5_0 S iX5 hK hP (h11 4 (by decide)) k17 dX5_read_63 ?_
  refine R_cVv (As := []) (rest := []) S (c_X1_reset (hB := (by decide)) (hM := (fun r => hG 10 r (by decide)))  hf) gX5_read_X1_reset rfl yk_X1_reset ⟨⟨Nat.le_of_ble_eq_true rfl, Nat.le_of_ble_eq_true rfl⟩, rfl, rfl⟩ hK hP hD hS hX hA ((fun r => hG 10 r (by decide)) 0 (by decide)) (cF_g E (by decide) _ _ 0) rfl rfl hl.1 rfl (Nat.le_of_ble_eq_true rfl) ⟨Nat.zero_le _, Nat.zero_le _⟩ dX5_read_66 (fun I_10 J_11 H locs hf hP hD hS => ?_)
  refine lv_aload_n S.1 S.2.1 dX5_read_69 rfl (lv_at hl 0 rfl) ?_
  refine R_cVi (As := []) (rest := []) S (c_X5_readRoof (h11 := h11) (hG := hG)  hf) gX5_read_X5_readRoof rfl yk_X5_readRoof ⟨⟨Nat.le_of_ble_eq_true rfl, Nat.le_of_ble_eq_true rfl⟩, rfl, rfl⟩ hK hP hD hS hX hA (h11 4 (by decide)) (cF_o E _ _ 4) rfl rfl hl.1 rfl (Nat.le_of_ble_eq_true rfl) ⟨Nat.zero_le _, Nat.zero_le _⟩ dX5_read_70 (fun v_14 I_12 J_13 H locs hf hP hD hS => ?_)
  refine lv_istore_n (lv' := [(3, .int v_14), (0, .ref (eA E 11 4)), (1, .ref (eA E 11 1)), (2, .int x2)]) S.1 S.2.1 dX5_read_73 rfl hl (by decide) rfl (fun ls hl => ?_)
  refine lv_iconst (v := 0) S.1 S.2.1 dX5_read_74 rfl ?_
  refine lv_istore (lv' := [(4, .int (0 : Int32)), (3, .int v_14), (0, .ref (eA E 11 4)), (1, .ref (eA E 11 1)), (2, .int x2)]) S.1 S.2.1 dX5_read_75 hl (by decide) rfl (fun ls hl => ?_)
  obtain ⟨n_43, hf⟩ := hf
  have L77 : ∀ (K132 : MI → MJ → Prop), (∀ (I_41 : MI) (J_42 : MJ), K132 I_41 J_42 → Wj p l e (rmX5_read) s m args below meth c Qm E ps 5 I_41 J_42 132 [(0, .ref (eA E 11 4))] []) → ∀ (n : Nat) (x3_15 : Int32) (x4_16 : Int32) (I_17 : MI) (J_18 : MJ), f_X5_read_L77 K132 n x3_15 x4_16 I_17 J_18 → Wj p l e (rmX5_read) s m args below meth c Qm E ps 5 I_17 J_18 77 [(0, .ref (eA E 11 4)), (3, .int x3_15), (4, .int x4_16)] [] := by
    intro K132 kx132 n
    induction n with
    | zero => intro x3_15 x4_16 I_17 J_18 hf; exact hf.elim
    | succ n ih77 =>
      intro x3_15 x4_16 I_17 J_18 hf
      have hf : f_X5_read_B77 K132 (f_X5_read_L77 K132 n) x3_15 x4_16 I_17 J_18 := hf
      intro H locs ls hP hD hS hl
      unfold f_X5_read_B77 at hf
      refine lv_iload S.1 S.2.1 dX5_read_77 (lv_at hl 2 rfl) ?_
      refine lv_sipush (v := 600) S.1 S.2.1 dX5_read_79 rfl ?_
      refine lv_icmp_ge (tgt := 132) S.1 S.2.1 dX5_read_82 (by decide) (fun h_19 => ?_) (fun h_19 => ?_)
      · have hf := hf.1 h_19
        exact kx132 _ _ hf _ _ _ hP hD hS (lv_sub hl [0] rfl)
      · have hf := hf.2 h_19
        refine lv_iload_n S.1 S.2.1 dX5_read_85 rfl (lv_at hl 1 rfl) ?_
        refine lv_if_eq (tgt := 132) S.1 S.2.1 dX5_read_86 (by decide) (fun h_20 => ?_) (fun h_20 => ?_)
        · have hf := hf.1 h_20
          exact kx132 _ _ hf _ _ _ hP hD hS (lv_sub hl [0] rfl)
        · have hf := hf.2 h_20
          refine lv_aload_n S.1 S.2.1 dX5_read_89 rfl (lv_at hl 0 rfl) ?_
          refine R_cVi (As := []) (rest := []) S (c_X5_peek (h11 := h11) (hG := hG)  hf) gX5_read_X5_peek rfl yk_X5_peek ⟨⟨Nat.le_of_ble_eq_true rfl, Nat.le_of_ble_eq_true rfl⟩, rfl, rfl⟩ hK hP hD hS hX hA (h11 4 (by decide)) (cF_o E _ _ 4) rfl rfl hl.1 rfl (Nat.le_of_ble_eq_true rfl) ⟨Nat.zero_le _, Nat.zero_le _⟩ dX5_read_90 (fun v_23 I_21 J_22 H locs hf hP hD hS => ?_)
          refine lv_iconst (v := (-1)) S.1 S.2.1 dX5_read_93 rfl ?_
          refine lv_icmp_eq (tgt := 132) S.1 S.2.1 dX5_read_94 (by decide) (fun h_24 => ?_) (fun h_24 => ?_)
          · have hf := hf.1 h_24
            exact kx132 _ _ hf _ _ _ hP hD hS (lv_sub hl [0] rfl)
          · have hf := hf.2 h_24
            refine lv_aload_n S.1 S.2.1 dX5_read_97 rfl (lv_at hl 0 rfl) ?_
            refine R_cVi (As := []) (rest := []) S (c_X5_readRun (h11 := h11) (hG := hG)  hf) gX5_read_X5_readRun rfl yk_X5_readRun ⟨⟨Nat.le_of_ble_eq_true rfl, Nat.le_of_ble_eq_true rfl⟩, rfl, rfl⟩ hK hP hD hS hX hA (h11 4 (by decide)) (cF_o E _ _ 4) rfl rfl hl.1 rfl (Nat.le_of_ble_eq_true rfl) ⟨Nat.zero_le _, Nat.zero_le _⟩ dX5_read_98 (fun v_27 I_25 J_26 H locs hf hP hD hS => ?_)
            refine lv_if_eq (tgt := 124) S.1 S.2.1 dX5_read_101 (by decide) (fun h_28 => ?_) (fun h_28 => ?_)
            · have hf := hf.1 h_28
              refine lv_iconst (v := 0) S.1 S.2.1 dX5_read_124 rfl ?_
              refine lv_istore_n (lv' := [(3, .int (0 : Int32)), (0, .ref (eA E 11 4)), (4, .int x4_16)]) S.1 S.2.1 dX5_read_125 rfl hl (by decide) rfl (fun ls hl => ?_)
              refine nm_o hf (fun x4_29 ex4_29 hf => ?_)
              refine lv_iinc (v := x4_29) (lv' := [(4, .int x4_29), (3, .int (0 : Int32)), (0, .ref (eA E 11 4))]) S.1 S.2.1 dX5_read_126 hl (k := 2) rfl (by rw [ex4_29]; rfl) (by decide) rfl (fun ls hl => ?_)
              refine lv_goto (tgt := 77) S.1 S.2.1 dX5_read_129 (by decide) ?_
              exact ih77 _ _ _ _ hf _ _ _ hP hD hS (lv_sub hl [2, 1, 0] rfl)
            · have hf := hf.2 h_28
              refine lv_aload_n S.1 S.2.1 dX5_read_104 rfl (lv_at hl 0 rfl) ?_
              refine R_cVi (As := []) (rest := []) S (c_X5_readStatement (h11 := h11) (hG := hG)  hf) gX5_read_X5_readStatement rfl yk_X5_readStatement ⟨⟨Nat.le_of_ble_eq_true rfl, Nat.le_of_ble_eq_true rfl⟩, rfl, rfl⟩ hK hP hD hS hX hA (h11 4 (by decide)) (cF_o E _ _ 4) rfl rfl hl.1 rfl (Nat.le_of_ble_eq_true rfl) ⟨Nat.zero_le _, Nat.zero_le _⟩ dX5_read_105 (fun v_32 I_30 J_31 H locs hf hP hD hS => ?_)
              refine lv_if_eq (tgt := 124) S.1 S.2.1 dX5_read_108 (by decide) (fun h_33 => ?_) (fun h_33 => ?_)
              · have hf := hf.1 h_33
                refine lv_iconst (v := 0) S.1 S.2.1 dX5_read_124 rfl ?_
                refine lv_istore_n (lv' := [(3, .int (0 : Int32)), (0, .ref (eA E 11 4)), (4, .int x4_16)]) S.1 S.2.1 dX5_read_125 rfl hl (by decide) rfl (fun ls hl => ?_)
                refine nm_o hf (fun x4_34 ex4_34 hf => ?_)
                refine lv_iinc (v := x4_34) (lv' := [(4, .int x4_34), (3, .int (0 : Int32)), (0, .ref (eA E 11 4))]) S.1 S.2.1 dX5_read_126 hl (k := 2) rfl (by rw [ex4_34]; rfl) (by decide) rfl (fun ls hl => ?_)
                refine lv_goto (tgt := 77) S.1 S.2.1 dX5_read_129 (by decide) ?_
                exact ih77 _ _ _ _ hf _ _ _ hP hD hS (lv_sub hl [2, 1, 0] rfl)
              · have hf := hf.2 h_33
                refine lv_aload_n S.1 S.2.1 dX5_read_111 rfl (lv_at hl 0 rfl) ?_
                refine lv_bipush (v := 59) S.1 S.2.1 dX5_read_112 rfl ?_
                refine R_cVi (As := [.int (59 : Int32)]) (rest := []) S (c_X5_readSign (h11 := h11) (hG := hG)  hf) gX5_read_X5_readSign rfl yk_X5_readSign ⟨⟨Nat.le_of_ble_eq_true rfl, Nat.le_of_ble_eq_true rfl⟩, rfl, rfl⟩ hK hP hD hS hX hA (h11 4 (by decide)) (cF_o E _ _ 4) rfl rfl hl.1 rfl (Nat.le_of_ble_eq_true rfl) ⟨Nat.zero_le _, Nat.zero_le _⟩ dX5_read_114 (fun v_37 I_35 J_36 H locs hf hP hD hS => ?_)
                refine lv_if_eq (tgt := 124) S.1 S.2.1 dX5_read_117 (by decide) (fun h_38 => ?_) (fun h_38 => ?_)
                · have hf := hf.1 h_38
                  refine lv_iconst (v := 0) S.1 S.2.1 dX5_read_124 rfl ?_
                  refine lv_istore_n (lv' := [(3, .int (0 : Int32)), (0, .ref (eA E 11 4)), (4, .int x4_16)]) S.1 S.2.1 dX5_read_125 rfl hl (by decide) rfl (fun ls hl => ?_)
                  refine nm_o hf (fun x4_39 ex4_39 hf => ?_)
                  refine lv_iinc (v := x4_39) (lv' := [(4, .int x4_39), (3, .int (0 : Int32)), (0, .ref (eA E 11 4))]) S.1 S.2.1 dX5_read_126 hl (k := 2) rfl (by rw [ex4_39]; rfl) (by decide) rfl (fun ls hl => ?_)
                  refine lv_goto (tgt := 77) S.1 S.2.1 dX5_read_129 (by decide) ?_
                  exact ih77 _ _ _ _ hf _ _ _ hP hD hS (lv_sub hl [2, 1, 0] rfl)
                · have hf := hf.2 h_38
                  refine lv_iconst (v := 1) S.1 S.2.1 dX5_read_120 rfl ?_
                  refine lv_goto (tgt := 125) S.1 S.2.1 dX5_read_121 (by decide) ?_
                  refine lv_istore_n (lv' := [(3, .int (1 : Int32)), (0, .ref (eA E 11 4)), (4, .int x4_16)]) S.1 S.2.1 dX5_read_125 rfl hl (by decide) rfl (fun ls hl => ?_)
                  refine nm_o hf (fun x4_40 ex4_40 hf => ?_)
                  refine lv_iinc (v := x4_40) (lv' := [(4, .int x4_40), (3, .int (1 : Int32)), (0, .ref (eA E 11 4))]) S.1 S.2.1 dX5_read_126 hl (k := 2) rfl (by rw [ex4_40]; rfl) (by decide) rfl (fun ls hl => ?_)
                  refine lv_goto (tgt := 77) S.1 S.2.1 dX5_read_129 (by decide) ?_
                  exact ih77 _ _ _ _ hf _ _ _ hP hD hS (lv_sub hl [2, 1, 0] rfl)
  refine L77 _ (fun I_41 J_42 hf H locs ls hP hD hS hl => ?_)  n_43 _ _ _ _ hf _ _ _ hP hD hS (lv_sub hl [2, 1, 0] rfl)
  refine lv_aload_n S.1 S.2.1 dX5_read_132 rfl (lv_at hl 0 rfl) ?_
  refine gfX5_5 S iX5 hK hP (h11 4 (by decide)) k12 dX5_read_133 ?_
  exact hret hf rfl hP hD hS dX5_read_136
