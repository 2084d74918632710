abbrev rmX5_takeOperator : Room := { frames := 1, cells := 0, slots := 0, locals := 20 }
theorem yk_X5_takeOperator : yOk yX5_takeOperator RX5 0 := by unfold yOk; decide +kernel
def f_X5_takeOperator_J70 (Q : Int32 → MI → MJ → Prop) (x1_5 : Int32) (I_6 : MI) (J_7 : MJ) : Prop :=
  ∀ I_8 : MI, I_8 = sI I_6 11 4 4 ((I_6 11 4 4) + (1 : Int32)) → Q x1_5 I_8 J_7
def f_X5_takeOperator (I : MI) (J : MJ) (Q : Int32 → MI → MJ → Prop) : Prop :=
  f_X5_peek I J (fun (v_3 : Int32) (I_1 : MI) (J_2 : MJ) => ((v_3 = (42 : Int32) → f_X5_takeOperator_J70 Q (-9 : Int32) I_1 J_2) ∧ (¬ v_3 = (42 : Int32) → ((v_3 = (43 : Int32) → f_X5_takeOperator_J70 Q (-7 : Int32) I_1 J_2) ∧ (¬ v_3 = (43 : Int32) → ((v_3 = (45 : Int32) → f_X5_takeOperator_J70 Q (-8 : Int32) I_1 J_2) ∧ (¬ v_3 = (45 : Int32) → ((v_3 = (47 : Int32) → f_X5_takeOperator_J70 Q (-10 : Int32) I_1 J_2) ∧ (¬ v_3 = (47 : Int32) → Q (0 : Int32) I_1 J_2)))))))))
set_option maxRecDepth 100000 in
set_option maxHeartbeats 4000000 in
theorem c_X5_takeOperator {l : Launch} {E : EV} {ps : List (Nat × Nat)} (h11 : ∀ r, r < 11 → (11, r) ∈ ps) (hG : ∀ k r, k < 11 → r < 16 → (k, r) ∈ ps) {I : MI} {J : MJ} {Q : Int32 → MI → MJ → Prop} (hf : f_X5_takeOperator I J Q) : KI l yX5_takeOperator wsX5_takeOperator rmX5_takeOperator E ps [.ref (eA E 11 4)] I J Q := by
  refine K_ofI (cc := cX5_takeOperator) (maxL := 2) (ty := .int) (by decide +kernel) rfl (Nat.le_of_ble_eq_true rfl) (fun p e s m args below meth c Qm hret S hK hX => ?_)
  have hA : ∀ q, s.heap.size ≤ q → AA E ps s.heap.size q := fun _ h => Or.inr h
  have k1 := S.2.2.2.2 (.fieldLink RX5 41 "RhymeRoofs$SetupReader" "at" "I") (by decide +kernel)
  have iX5 : ∀ w ∈ wsX50, w ∈ wsX5_takeOperator := fun _ h => List.mem_cons_of_mem _ (List.mem_append_right _ h)
  have jn70 : ∀ (x1_5 : Int32) (I_6 : MI) (J_7 : MJ), f_X5_takeOperator_J70 Q x1_5 I_6 J_7 → Wj p l e (rmX5_takeOperator) s m args below meth c Qm E ps 2 I_6 J_7 70 [(0, .ref (eA E 11 4)), (1, .int x1_5)] [] := by
    intro x1_5 I_6 J_7 hf H locs ls hP hD hS hl
    unfold f_X5_takeOperator_J70 at hf
    refine lv_aload_n S.1 S.2.1 dX5_takeOperator_70 rfl (lv_at hl 0 rfl) ?_
    refine lv_dup S.1 S.2.1 dX5_takeOperator_71 rfl ?_
    refine gfX5_4 S iX5 hK hP (h11 4 (by decide)) k1 dX5_takeOperator_72 ?_
    refine lv_iconst (v := 1) S.1 S.2.1 dX5_takeOperator_75 rfl ?_
    refine lv_iadd S.1 S.2.1 dX5_takeOperator_76 ?_
    refine nm_o hf (fun I_8 eI_8 hf => ?_)
    refine pfX5_4 S iX5 hK hP hD hS (h11 4 (by decide)) k1 dX5_takeOperator_77 eI_8 (fun H locs hP hD hS => ?_)
    refine lv_iload_n S.1 S.2.1 dX5_takeOperator_80 rfl (lv_at hl 1 rfl) ?_
    exact hret hf rfl hP hD hS dX5_takeOperator_81
  intro H locs ls hP hD hS hl
  unfold f_X5_takeOperator at hf
  refine lv_aload_n S.1 S.2.1 dX5_takeOperator_0 rfl (lv_at hl 0 rfl) ?_
  refine R_cVi (As := []) (rest := []) S (c_X5_peek (h11 := h11) (hG := hG)  hf) gX5_takeOperator_X5_peek rfl yk_X5_peek ⟨⟨Nat.le_of_ble_eq_true rfl, Nat.le_of_ble_eq_true rfl⟩, rfl, rfl⟩ hK hP hD hS hX hA (h11 4 (by decide)) (cF_o E _ _ 4) rfl rfl hl.1 rfl (Nat.le_of_ble_eq_true rfl) ⟨Nat.zero_le _, Nat.zero_le _⟩ dX5_takeOperator_1 (fun v_3 I_1 J_2 H locs hf hP hD hS => ?_)
  refine Classical.byCases (p := v_3 = (42 : Int32)) (fun h_4 => ?_) (fun h_4_0 => ?_)
  · have hf := hf.1 h_4
    refine R_swIn (tgt := 56) (off := 52) S.1 S.2.1 dX5_takeOperator_4 h_4 (by decide) (by decide) ?_
    refine lv_bipush (v := (-9)) S.1 S.2.1 dX5_takeOperator_56 rfl ?_
    refine lv_istore_n (lv' := [(1, .int (-9 : Int32)), (0, .ref (eA E 11 4))]) S.1 S.2.1 dX5_takeOperator_58 rfl hl (by decide) rfl (fun ls hl => ?_)
    refine lv_goto (tgt := 70) S.1 S.2.1 dX5_takeOperator_59 (by decide) ?_
    exact jn70 _ _ _ hf _ _ _ hP hD hS (lv_sub hl [1, 0] rfl)
  have hf := hf.2 h_4_0
  refine Classical.byCases (p := v_3 = (43 : Int32)) (fun h_4 => ?_) (fun h_4_1 => ?_)
  · have hf := hf.1 h_4
    refine R_swIn (tgt := 44) (off := 40) S.1 S.2.1 dX5_takeOperator_4 h_4 (by decide) (by decide) ?_
    refine lv_bipush (v := (-7)) S.1 S.2.1 dX5_takeOperator_44 rfl ?_
    refine lv_istore_n (lv' := [(1, .int (-7 : Int32)), (0, .ref (eA E 11 4))]) S.1 S.2.1 dX5_takeOperator_46 rfl hl (by decide) rfl (fun ls hl => ?_)
    refine lv_goto (tgt := 70) S.1 S.2.1 dX5_takeOperator_47 (by decide) ?_
    exact jn70 _ _ _ hf _ _ _ hP hD hS (lv_sub hl [1, 0] rfl)
  have hf := hf.2 h_4_1
  refine Classical.byCases (p := v_3 = (45 : Int32)) (fun h_4 => ?_) (fun h_4_3 => ?_)
  · have hf := hf.1 h_4
    refine R_swIn (tgt := 50) (off := 46) S.1 S.2.1 dX5_takeOperator_4 h_4 (by decide) (by decide) ?_
    refine lv_bipush (v := (-8)) S.1 S.2.1 dX5_takeOperator_50 rfl ?_
    refine lv_istore_n (lv' := [(1, .int (-8 : Int32)), (0, .ref (eA E 11 4))]) S.1 S.2.1 dX5_takeOperator_52 rfl hl (by decide) rfl (fun ls hl => ?_)
    refine lv_goto (tgt := 70) S.1 S.2.1 dX5_takeOperator_53 (by decide) ?_
    exact jn70 _ _ _ hf _ _ _ hP hD hS (lv_sub hl [1, 0] rfl)
  have hf := hf.2 h_4_3
  refine Classical.byCases (p := v_3 = (47 : Int32)) (fun h_4 => ?_) (fun h_4_5 => ?_)
  · have hf := hf.1 h_4
    refine R_swIn (tgt := 62) (off := 58) S.1 S.2.1 dX5_takeOperator_4 h_4 (by decide) (by decide) ?_
    refine lv_bipush (v := (-10)) S.1 S.2.1 dX5_takeOperator_62 rfl ?_
    refine lv_istore_n (lv' := [(1, .int (-10 : Int32)), (0, .ref (eA E 11 4))]) S.1 S.2.1 dX5_takeOperator_64 rfl hl (by decide) rfl (fun ls hl => ?_)
    refine lv_goto (tgt := 70) S.1 S.2.1 dX5_takeOperator_65 (by decide) ?_
    exact jn70 _ _ _ hf _ _ _ hP hD hS (lv_sub hl [1, 0] rfl)
  have hf := hf.2 h_4_5
  refine Classical.byCases (p := v_3 = (44 : Int32)) (fun h_9 => ?_) (fun h_4_2 => ?_)
  · refine R_swIn (tgt := 68) (off := 64) S.1 S.2.1 dX5_takeOperator_4 h_9 (by decide) (by decide) ?_
    refine lv_iconst (v := 0) S.1 S.2.1 dX5_takeOperator_68 rfl ?_
    exact hret hf rfl hP hD hS dX5_takeOperator_69
  refine Classical.byCases (p := v_3 = (46 : Int32)) (fun h_9 => ?_) (fun h_4_4 => ?_)
  · refine R_swIn (tgt := 68) (off := 64) S.1 S.2.1 dX5_takeOperator_4 h_9 (by decide) (by decide) ?_
    refine lv_iconst (v := 0) S.1 S.2.1 dX5_takeOperator_68 rfl ?_
    exact hret hf rfl hP hD hS dX5_takeOperator_69
  refine lv_tableOut (tgt := 68) S.1 S.2.1 dX5_takeOperator_4 (by have q0 := ne_I (z := 42) h_4_0 (by decide); have q1 := ne_I (z := 43) h_4_1 (by decide); have q2 := ne_I (z := 44) h_4_2 (by decide); have q3 := ne_I (z := 45) h_4_3 (by decide); have q4 := ne_I (z := 46) h_4_4 (by decide); have q5 := ne_I (z := 47) h_4_5 (by decide); omega) (by decide) ?_
  refine lv_iconst (v := 0) S.1 S.2.1 dX5_takeOperator_68 rfl ?_
  exact hret hf rfl hP hD hS dX5_takeOperator_69
abbrev rmX5_factOfRun : Room := { frames := 5, cells := 0, slots := 0, locals := 107 }
theorem yk_X5_factOfRun : yOk yX5_factOfRun RX5 0 := by unfold yOk; decide +kernel
def f_X5_factOfRun (I : MI) (J : MJ) (Q : Int32 → MI → MJ → Prop) : Prop :=
  f_X5_runIs 8 I J (fun (v_3 : Int32) (I_1 : MI) (J_2 : MJ) => ((v_3 = (0 : Int32) → f_X5_runIs 9 I_1 J_2 (fun (v_7 : Int32) (I_5 : MI) (J_6 : MJ) => ((v_7 = (0 : Int32) → f_X5_runIs 10 I_5 J_6 (fun (v_11 : Int32) (I_9 : MI) (J_10 : MJ) => ((v_11 = (0 : Int32) → f_X5_runIs 11 I_9 J_10 (fun (v_15 : Int32) (I_13 : MI) (J_14 : MJ) => ((v_15 = (0 : Int32) → f_X5_runIs 12 I_13 J_14 (fun (v_19 : Int32) (I_17 : MI) (J_18 : MJ) => ((v_19 = (0 : Int32) → f_X5_runIs 6 I_17 J_18 (fun (v_23 : Int32) (I_21 : MI) (J_22 : MJ) => ((v_23 = (0 : Int32) → Q (0 : Int32) I_21 J_22) ∧ (¬ v_23 = (0 : Int32) → Q (-6 : Int32) I_21 J_22)))) ∧ (¬ v_19 = (0 : Int32) → Q (-5 : Int32) I_17 J_18)))) ∧ (¬ v_15 = (0 : Int32) → Q (-4 : Int32) I_13 J_14)))) ∧ (¬ v_11 = (0 : Int32) → Q (-3 : Int32) I_9 J_10)))) ∧ (¬ v_7 = (0 : Int32) → Q (-2 : Int32) I_5 J_6)))) ∧ (¬ v_3 = (0 : Int32) → Q (-1 : Int32) I_1 J_2)))
set_option maxRecDepth 100000 in
set_option maxHeartbeats 4000000 in
theorem c_X5_factOfRun {l : Launch} {E : EV} {ps : List (Nat × Nat)} (h11 : ∀ r, r < 11 → (11, r) ∈ ps) (hG : ∀ k r, k < 11 → r < 16 → (k, r) ∈ ps) {I : MI} {J : MJ} {Q : Int32 → MI → MJ → Prop} (hf : f_X5_factOfRun I J Q) : KI l yX5_factOfRun wsX5_factOfRun rmX5_factOfRun E ps [.ref (eA E 11 4)] I J Q := by
  refine K_ofI (cc := cX5_factOfRun) (maxL := 1) (ty := .int) (by decide +kernel) rfl (Nat.le_of_ble_eq_true rfl) (fun p e s m args below meth c Qm hret S hK hX => ?_)
  have hA : ∀ q, s.heap.size ≤ q → AA E ps s.heap.size q := fun _ h => Or.inr h
  intro H locs ls hP hD hS hl
  unfold f_X5_factOfRun at hf
  refine lv_aload_n S.1 S.2.1 dX5_factOfRun_0 rfl (lv_at hl 0 rfl) ?_
  refine va_ldcS S.1 S.2.1 S.2.2.2.1 (sxvX5_211 hX) dX5_factOfRun_1 ?_
  refine R_cVi (As := [.ref (eK E 8)]) (rest := []) S (c_X5_runIs (h11 := h11) (hG := hG) (hw := (by decide)) hf) gX5_factOfRun_X5_runIs rfl yk_X5_runIs ⟨⟨Nat.le_of_ble_eq_true rfl, Nat.le_of_ble_eq_true rfl⟩, rfl, rfl⟩ hK hP hD hS hX hA (h11 4 (by decide)) (cF_o E _ _ 4) rfl rfl hl.1 rfl (Nat.le_of_ble_eq_true rfl) ⟨Nat.zero_le _, Nat.zero_le _⟩ dX5_factOfRun_3 (fun v_3 I_1 J_2 H locs hf hP hD hS => ?_)
  refine lv_if_eq (tgt := 11) S.1 S.2.1 dX5_factOfRun_6 (by decide) (fun h_4 => ?_) (fun h_4 => ?_)
  · have hf := hf.1 h_4
    refine lv_aload_n S.1 S.2.1 dX5_factOfRun_11 rfl (lv_at hl 0 rfl) ?_
    refine va_ldcS S.1 S.2.1 S.2.2.2.1 (sxvX5_213 hX) dX5_factOfRun_12 ?_
    refine R_cVi (As := [.ref (eK E 9)]) (rest := []) S (c_X5_runIs (h11 := h11) (hG := hG) (hw := (by decide)) hf) gX5_factOfRun_X5_runIs rfl yk_X5_runIs ⟨⟨Nat.le_of_ble_eq_true rfl, Nat.le_of_ble_eq_true rfl⟩, rfl, rfl⟩ hK hP hD hS hX hA (h11 4 (by decide)) (cF_o E _ _ 4) rfl rfl hl.1 rfl (Nat.le_of_ble_eq_true rfl) ⟨Nat.zero_le _, Nat.zero_le _⟩ dX5_factOfRun_14 (fun v_7 I_5 J_6 H locs hf hP hD hS => ?_)
    refine lv_if_eq (tgt := 23) S.1 S.2.1 dX5_factOfRun_17 (by decide) (fun h_8 => ?_) (fun h_8 => ?_)
    · have hf := hf.1 h_8
      refine lv_aload_n S.1 S.2.1 dX5_factOfRun_23 rfl (lv_at hl 0 rfl) ?_
      refine va_ldcS S.1 S.2.1 S.2.2.2.1 (sxvX5_215 hX) dX5_factOfRun_24 ?_
      refine R_cVi (As := [.ref (eK E 10)]) (rest := []) S (c_X5_runIs (h11 := h11) (hG := hG) (hw := (by decide)) hf) gX5_factOfRun_X5_runIs rfl yk_X5_runIs ⟨⟨Nat.le_of_ble_eq_true rfl, Nat.le_of_ble_eq_true rfl⟩, rfl, rfl⟩ hK hP hD hS hX hA (h11 4 (by decide)) (cF_o E _ _ 4) rfl rfl hl.1 rfl (Nat.le_of_ble_eq_true rfl) ⟨Nat.zero_le _, Nat.zero_le _⟩ dX5_factOfRun_26 (fun v_11 I_9 J_10 H locs hf hP hD hS => ?_)
      refine lv_if_eq (tgt := 35) S.1 S.2.1 dX5_factOfRun_29 (by decide) (fun h_12 => ?_) (fun h_12 => ?_)
      · have hf := hf.1 h_12
        refine lv_aload_n S.1 S.2.1 dX5_factOfRun_35 rfl (lv_at hl 0 rfl) ?_
        refine va_ldcS S.1 S.2.1 S.2.2.2.1 (sxvX5_217 hX) dX5_factOfRun_36 ?_
        refine R_cVi (As := [.ref (eK E 11)]) (rest := []) S (c_X5_runIs (h11 := h11) (hG := hG) (hw := (by decide)) hf) gX5_factOfRun_X5_runIs rfl yk_X5_runIs ⟨⟨Nat.le_of_ble_eq_true rfl, Nat.le_of_ble_eq_true rfl⟩, rfl, rfl⟩ hK hP hD hS hX hA (h11 4 (by decide)) (cF_o E _ _ 4) rfl rfl hl.1 rfl (Nat.le_of_ble_eq_true rfl) ⟨Nat.zero_le _, Nat.zero_le _⟩ dX5_factOfRun_38 (fun v_15 I_13 J_14 H locs hf hP hD hS => ?_)
        refine lv_if_eq (tgt := 47) S.1 S.2.1 dX5_factOfRun_41 (by decide) (fun h_16 => ?_) (fun h_16 => ?_)
        · have hf := hf.1 h_16
          refine lv_aload_n S.1 S.2.1 dX5_factOfRun_47 rfl (lv_at hl 0 rfl) ?_
          refine va_ldcS S.1 S.2.1 S.2.2.2.1 (sxvX5_219 hX) dX5_factOfRun_48 ?_
          refine R_cVi (As := [.ref (eK E 12)]) (rest := []) S (c_X5_runIs (h11 := h11) (hG := hG) (hw := (by decide)) hf) gX5_factOfRun_X5_runIs rfl yk_X5_runIs ⟨⟨Nat.le_of_ble_eq_true rfl, Nat.le_of_ble_eq_true rfl⟩, rfl, rfl⟩ hK hP hD hS hX hA (h11 4 (by decide)) (cF_o E _ _ 4) rfl rfl hl.1 rfl (Nat.le_of_ble_eq_true rfl) ⟨Nat.zero_le _, Nat.zero_le _⟩ dX5_factOfRun_50 (fun v_19 I_17 J_18 H locs hf hP hD hS => ?_)
          refine lv_if_eq (tgt := 59) S.1 S.2.1 dX5_factOfRun_53 (by decide) (fun h_20 => ?_) (fun h_20 => ?_)
          · have hf := hf.1 h_20
            refine lv_aload_n S.1 S.2.1 dX5_factOfRun_59 rfl (lv_at hl 0 rfl) ?_
            refine va_ldcS S.1 S.2.1 S.2.2.2.1 (sxvX5_155 hX) dX5_factOfRun_60 ?_
            refine R_cVi (As := [.ref (eK E 6)]) (rest := []) S (c_X5_runIs (h11 := h11) (hG := hG) (hw := (by decide)) hf) gX5_factOfRun_X5_runIs rfl yk_X5_runIs ⟨⟨Nat.le_of_ble_eq_true rfl, Nat.le_of_ble_eq_true rfl⟩, rfl, rfl⟩ hK hP hD hS hX hA (h11 4 (by decide)) (cF_o E _ _ 4) rfl rfl hl.1 rfl (Nat.le_of_ble_eq_true rfl) ⟨Nat.zero_le _, Nat.zero_le _⟩ dX5_factOfRun_62 (fun v_23 I_21 J_22 H locs hf hP hD hS => ?_)
            refine lv_if_eq (tgt := 73) S.1 S.2.1 dX5_factOfRun_65 (by decide) (fun h_24 => ?_) (fun h_24 => ?_)
            · have hf := hf.1 h_24
              refine lv_iconst (v := 0) S.1 S.2.1 dX5_factOfRun_73 rfl ?_
              exact hret hf rfl hP hD hS dX5_factOfRun_74
            · have hf := hf.2 h_24
              refine lv_bipush (v := (-6)) S.1 S.2.1 dX5_factOfRun_68 rfl ?_
              refine lv_goto (tgt := 74) S.1 S.2.1 dX5_factOfRun_70 (by decide) ?_
              exact hret hf rfl hP hD hS dX5_factOfRun_74
          · have hf := hf.2 h_20
            refine lv_bipush (v := (-5)) S.1 S.2.1 dX5_factOfRun_56 rfl ?_
            exact hret hf rfl hP hD hS dX5_factOfRun_58
        · have hf := hf.2 h_16
          refine lv_bipush (v := (-4)) S.1 S.2.1 dX5_factOfRun_44 rfl ?_
          exact hret hf rfl hP hD hS dX5_factOfRun_46
      · have hf := hf.2 h_12
        refine lv_bipush (v := (-3)) S.1 S.2.1 dX5_factOfRun_32 rfl ?_
        exact hret hf rfl hP hD hS dX5_factOfRun_34
    · have hf := hf.2 h_8
      refine lv_bipush (v := (-2)) S.1 S.2.1 dX5_factOfRun_20 rfl ?_
      exact hret hf rfl hP hD hS dX5_factOfRun_22
  · have hf := hf.2 h_4
    refine lv_iconst (v := (-1)) S.1 S.2.1 dX5_factOfRun_9 rfl ?_
    exact hret hf rfl hP hD hS dX5_factOfRun_10
abbrev rmX5_readRoof : Room := { frames := 5, cells := 0, slots := 0, locals := 108 }
theorem yk_X5_readRoof : yOk yX5_readRoof RX5 0 := by unfold yOk; decide +kernel
def f_X5_readRoof (I : MI) (J : MJ) (Q : Int32 → MI → MJ → Prop) : Prop :=
  f_X5_readRun I J (fun (v_3 : Int32) (I_1 : MI) (J_2 : MJ) => ((v_3 = (0 : Int32) → Q (0 : Int32) I_1 J_2) ∧ (¬ v_3 = (0 : Int32) → f_X5_runIs 0 I_1 J_2 (fun (v_7 : Int32) (I_5 : MI) (J_6 : MJ) => ((v_7 = (0 : Int32) → f_X5_fail (-2 : Int32) (I_5 11 4 7) I_5 J_6 (fun (v_11 : Int32) (I_9 : MI) (J_10 : MJ) => (bo v_11 ∧ Q v_11 I_9 J_10))) ∧ (¬ v_7 = (0 : Int32) → f_X5_readRows I_5 J_6 (fun (v_15 : Int32) (I_13 : MI) (J_14 : MJ) => ((v_15 = (0 : Int32) → Q (0 : Int32) I_13 J_14) ∧ (¬ v_15 = (0 : Int32) → f_X5_readSign (59 : Int32) I_13 J_14 (fun (v_19 : Int32) (I_17 : MI) (J_18 : MJ) => ((v_19 = (0 : Int32) → Q (0 : Int32) I_17 J_18) ∧ (¬ v_19 = (0 : Int32) → Q (1 : Int32) I_17 J_18))))))))))))
set_option maxRecDepth 100000 in
set_option maxHeartbeats 4000000 in
theorem c_X5_readRoof {l : Launch} {E : EV} {ps : List (Nat × Nat)} (h11 : ∀ r, r < 11 → (11, r) ∈ ps) (hG : ∀ k r, k < 11 → r < 16 → (k, r) ∈ ps) {I : MI} {J : MJ} {Q : Int32 → MI → MJ → Prop} (hf : f_X5_readRoof I J Q) : KI l yX5_readRoof wsX5_readRoof rmX5_readRoof E ps [.ref (eA E 11 4)] I J Q := by
  refine K_ofI (cc := cX5_readRoof) (maxL := 1) (ty := .boolean) (by decide +kernel) rfl (Nat.le_of_ble_eq_true rfl) (fun p e s m args below meth c Qm hret S hK hX => ?_)
  have hA : ∀ q, s.heap.size ≤ q → AA E ps s.heap.size q := fun _ h => Or.inr h
  have k1 := S.2.2.2.2 (.fieldLink RX5 85 "RhymeRoofs$SetupReader" "tokenStart" "I") (by decide +kernel)
  have iX5 : ∀ w ∈ wsX50, w ∈ wsX5_readRoof := fun _ h => List.mem_cons_of_mem _ (List.mem_append_left _ (List.mem_append_left _ (List.mem_append_right _ h)))
  intro H locs ls hP hD hS hl
  unfold f_X5_readRoof at hf
  refine lv_aload_n S.1 S.2.1 dX5_readRoof_0 rfl (lv_at hl 0 rfl) ?_
  refine R_cVi (As := []) (rest := []) S (c_X5_readRun (h11 := h11) (hG := hG)  hf) gX5_readRoof_X5_readRun rfl yk_X5_readRun ⟨⟨Nat.le_of_ble_eq_true rfl, Nat.le_of_ble_eq_true rfl⟩, rfl, rfl⟩ hK hP hD hS hX hA (h11 4 (by decide)) (cF_o E _ _ 4) rfl rfl hl.1 rfl (Nat.le_of_ble_eq_true rfl) ⟨Nat.zero_le _, Nat.zero_le _⟩ dX5_readRoof_1 (fun v_3 I_1 J_2 H locs hf hP hD hS => ?_)
  refine lv_if_ne (tgt := 9) S.1 S.2.1 dX5_readRoof_4 (by decide) (fun h_4 => ?_) (fun h_4 => ?_)
  · have hf := hf.2 h_4
    refine lv_aload_n S.1 S.2.1 dX5_readRoof_9 rfl (lv_at hl 0 rfl) ?_
    refine va_ldcS S.1 S.2.1 S.2.2.2.1 (sxvX5_106 hX) dX5_readRoof_10 ?_
    refine R_cVi (As := [.ref (eK E 0)]) (rest := []) S (c_X5_runIs (h11 := h11) (hG := hG) (hw := (by decide)) hf) gX5_readRoof_X5_runIs rfl yk_X5_runIs ⟨⟨Nat.le_of_ble_eq_true rfl, Nat.le_of_ble_eq_true rfl⟩, rfl, rfl⟩ hK hP hD hS hX hA (h11 4 (by decide)) (cF_o E _ _ 4) rfl rfl hl.1 rfl (Nat.le_of_ble_eq_true rfl) ⟨Nat.zero_le _, Nat.zero_le _⟩ dX5_readRoof_12 (fun v_7 I_5 J_6 H locs hf hP hD hS => ?_)
    refine lv_if_eq (tgt := 42) S.1 S.2.1 dX5_readRoof_15 (by decide) (fun h_8 => ?_) (fun h_8 => ?_)
    · have hf := hf.1 h_8
      refine lv_aload_n S.1 S.2.1 dX5_readRoof_42 rfl (lv_at hl 0 rfl) ?_
      refine lv_bipush (v := (-2)) S.1 S.2.1 dX5_readRoof_43 rfl ?_
      refine lv_aload_n S.1 S.2.1 dX5_readRoof_45 rfl (lv_at hl 0 rfl) ?_
      refine gfX5_7 S iX5 hK hP (h11 4 (by decide)) k1 dX5_readRoof_46 ?_
      refine R_cVi (As := [.int (-2 : Int32), .int (I_5 11 4 7)]) (rest := []) S (c_X5_fail (h11 := h11) (hG := hG)  hf) gX5_readRoof_X5_fail rfl yk_X5_fail ⟨⟨Nat.le_of_ble_eq_true rfl, Nat.le_of_ble_eq_true rfl⟩, rfl, rfl⟩ hK hP hD hS hX hA (h11 4 (by decide)) (cF_o E _ _ 4) rfl rfl hl.1 rfl (Nat.le_of_ble_eq_true rfl) ⟨Nat.zero_le _, Nat.zero_le _⟩ dX5_readRoof_49 (fun v_11 I_9 J_10 H locs hf hP hD hS => ?_)
      obtain ⟨h_12, hf⟩ := hf
      exact hret hf h_12.1 hP hD hS dX5_readRoof_52
    · have hf := hf.2 h_8
      refine lv_aload_n S.1 S.2.1 dX5_readRoof_18 rfl (lv_at hl 0 rfl) ?_
      refine R_cVi (As := []) (rest := []) S (c_X5_readRows (h11 := h11) (hG := hG)  hf) gX5_readRoof_X5_readRows rfl yk_X5_readRows ⟨⟨Nat.le_of_ble_eq_true rfl, Nat.le_of_ble_eq_true rfl⟩, rfl, rfl⟩ hK hP hD hS hX hA (h11 4 (by decide)) (cF_o E _ _ 4) rfl rfl hl.1 rfl (Nat.le_of_ble_eq_true rfl) ⟨Nat.zero_le _, Nat.zero_le _⟩ dX5_readRoof_19 (fun v_15 I_13 J_14 H locs hf hP hD hS => ?_)
      refine lv_if_eq (tgt := 38) S.1 S.2.1 dX5_readRoof_22 (by decide) (fun h_16 => ?_) (fun h_16 => ?_)
      · have hf := hf.1 h_16
        refine lv_iconst (v := 0) S.1 S.2.1 dX5_readRoof_38 rfl ?_
        refine lv_goto (tgt := 52) S.1 S.2.1 dX5_readRoof_39 (by decide) ?_
        exact hret hf rfl hP hD hS dX5_readRoof_52
      · have hf := hf.2 h_16
        refine lv_aload_n S.1 S.2.1 dX5_readRoof_25 rfl (lv_at hl 0 rfl) ?_
        refine lv_bipush (v := 59) S.1 S.2.1 dX5_readRoof_26 rfl ?_
        refine R_cVi (As := [.int (59 : Int32)]) (rest := []) S (c_X5_readSign (h11 := h11) (hG := hG)  hf) gX5_readRoof_X5_readSign rfl yk_X5_readSign ⟨⟨Nat.le_of_ble_eq_true rfl, Nat.le_of_ble_eq_true rfl⟩, rfl, rfl⟩ hK hP hD hS hX hA (h11 4 (by decide)) (cF_o E _ _ 4) rfl rfl hl.1 rfl (Nat.le_of_ble_eq_true rfl) ⟨Nat.zero_le _, Nat.zero_le _⟩ dX5_readRoof_28 (fun v_19 I_17 J_18 H locs hf hP hD hS => ?_)
        refine lv_if_eq (tgt := 38) S.1 S.2.1 dX5_readRoof_31 (by decide) (fun h_20 => ?_) (fun h_20 => ?_)
        · have hf := hf.1 h_20
          refine lv_iconst (v := 0) S.1 S.2.1 dX5_readRoof_38 rfl ?_
          refine lv_goto (tgt := 52) S.1 S.2.1 dX5_readRoof_39 (by decide) ?_
          exact hret hf rfl hP hD hS dX5_readRoof_52
        · have hf := hf.2 h_20
          refine lv_iconst (v := 1) S.1 S.2.1 dX5_readRoof_34 rfl ?_
          refine lv_goto (tgt := 52) S.1 S.2.1 dX5_readRoof_35 (by decide) ?_
          exact hret hf rfl hP hD hS dX5_readRoof_52
  · have hf := hf.1 h_4
    refine lv_iconst (v := 0) S.1 S.2.1 dX5_readRoof_7 rfl ?_
    exact hret hf rfl hP hD hS dX5_readRoof_8
