abbrev rmX8_readValue : Room := { frames := 3, cells := 0, slots := 0, locals := 65 }
theorem yk_X8_readValue : yOk yX8_readValue RX8 5 := by unfold yOk; decide +kernel
def f_X8_readValue (x1 : Int32) (x2 : Int32) (x3 : Int32) (x4 : Int32) (x5 : Int32) (I : MI) (J : MJ) (Q : MI → MJ → Prop) : Prop :=
  f_X8_once x1 x3 I J (fun (I_1 : MI) (J_2 : MJ) => f_X8_number x4 x5 I_1 J_2 (fun (v_5 : Int32) (I_3 : MI) (J_4 : MJ) => (vp_in x2 1802 ∧ ∀ I_7 : MI, I_7 = sI I_3 12 3 x2.toNatClampNeg v_5 → Q I_7 J_4)))
set_option maxRecDepth 100000 in
set_option maxHeartbeats 4000000 in
theorem c_X8_readValue {l : Launch} {E : EV} {ps : List (Nat × Nat)} (h12 : ∀ r, r < 17 → (12, r) ∈ ps) {x1 : Int32} {x2 : Int32} {x3 : Int32} {x4 : Int32} {x5 : Int32} {I : MI} {J : MJ} {Q : MI → MJ → Prop} (hf : f_X8_readValue x1 x2 x3 x4 x5 I J Q) : KV l yX8_readValue wsX8_readValue rmX8_readValue E ps [.ref (eA E 12 0), .int x1, .int x2, .int x3, .int x4, .int x5] I J Q := by
  refine K_ofV (cc := cX8_readValue) (maxL := 6) (by decide +kernel) rfl (Nat.le_of_ble_eq_true rfl) (fun p e s m args below meth c Qm hret S hK hX => ?_)
  have hA : ∀ q, s.heap.size ≤ q → AA E ps s.heap.size q := fun _ h => Or.inr h
  have k1 := S.2.2.2.2 (.fieldLink RX8 20 "RhymeRoofsModel" "draft" "[I") (by decide +kernel)
  have iX8 : ∀ w ∈ wsX80, w ∈ wsX8_readValue := fun _ h => List.mem_cons_of_mem _ (List.mem_append_right _ h)
  intro H locs ls hP hD hS hl
  unfold f_X8_readValue at hf
  refine lv_aload_n S.1 S.2.1 dX8_readValue_0 rfl (lv_at hl 0 rfl) ?_
  refine lv_iload_n S.1 S.2.1 dX8_readValue_1 rfl (lv_at hl 1 rfl) ?_
  refine lv_iload_n S.1 S.2.1 dX8_readValue_2 rfl (lv_at hl 3 rfl) ?_
  refine R_cVv (As := [.int x1, .int x3]) (rest := []) S (c_X8_once (h12 := h12)  hf) gX8_readValue_X8_once rfl yk_X8_once ⟨⟨Nat.le_of_ble_eq_true rfl, Nat.le_of_ble_eq_true rfl⟩, rfl, rfl⟩ hK hP hD hS hX hA (h12 0 (by decide)) (cF_m E _ _ 0) rfl rfl hl.1 rfl (Nat.le_of_ble_eq_true rfl) ⟨Nat.zero_le _, Nat.zero_le _⟩ dX8_readValue_3 (fun I_1 J_2 H locs hf hP hD hS => ?_)
  refine lv_aload_n S.1 S.2.1 dX8_readValue_6 rfl (lv_at hl 0 rfl) ?_
  refine gfX8_9 S iX8 hK hP (h12 0 (by decide)) k1 dX8_readValue_7 ?_
  refine lv_iload_n S.1 S.2.1 dX8_readValue_10 rfl (lv_at hl 2 rfl) ?_
  refine lv_aload_n S.1 S.2.1 dX8_readValue_11 rfl (lv_at hl 0 rfl) ?_
  refine lv_iload S.1 S.2.1 dX8_readValue_12 (lv_at hl 4 rfl) ?_
  refine lv_iload S.1 S.2.1 dX8_readValue_14 (lv_at hl 5 rfl) ?_
  refine R_cVi (As := [.int x4, .int x5]) (rest := [.int x2, .ref (eA E 12 3)]) S (c_X8_number (h12 := h12)  hf) gX8_readValue_X8_number rfl yk_X8_number ⟨⟨Nat.le_of_ble_eq_true rfl, Nat.le_of_ble_eq_true rfl⟩, rfl, rfl⟩ hK hP hD hS hX hA (h12 0 (by decide)) (cF_m E _ _ 0) rfl rfl hl.1 rfl (Nat.le_of_ble_eq_true rfl) ⟨Nat.zero_le _, Nat.zero_le _⟩ dX8_readValue_16 (fun v_5 I_3 J_4 H locs hf hP hD hS => ?_)
  obtain ⟨h_6, hf⟩ := hf
  refine nm_o hf (fun I_7 eI_7 hf => ?_)
  refine R_iast S.1 S.2.1 hK hP hD hS (h12 3 (by decide)) (IAm3 E) h_6 dX8_readValue_19 eI_7 (fun H locs hP hD hS => ?_)
  exact hret hf hP hD hS dX8_readValue_20
abbrev rmX8_statement : Room := { frames := 27, cells := 0, slots := 0, locals := 604 }
theorem yk_X8_statement : yOk yX8_statement RX8 0 := by unfold yOk; decide +kernel
def f_X8_statement_J179 (Q : MI → MJ → Prop) (I_35 : MI) (J_36 : MJ) : Prop :=
  f_X8_expect (59 : Int32) I_35 J_36 (fun (I_37 : MI) (J_38 : MJ) => Q I_37 J_38)
def f_X8_statement_J33 (Q : MI → MJ → Prop) (x1_56 : Int32) (I_57 : MI) (J_58 : MJ) : Prop :=
  f_X8_readValue (0 : Int32) (1 : Int32) x1_56 (2 : Int32) (4 : Int32) I_57 J_58 (fun (I_59 : MI) (J_60 : MJ) => f_X8_statement_J179 Q I_59 J_60)
def f_X8_statement (I : MI) (J : MJ) (Q : MI → MJ → Prop) : Prop :=
  f_X8_ahead I J (fun (v_3 : Int32) (I_1 : MI) (J_2 : MJ) => ∀ x1_4 : Int32, x1_4 = I_1 12 0 4 → f_X8_takeWord 1 I_1 J_2 (fun (v_7 : Int32) (I_5 : MI) (J_6 : MJ) => ((v_7 = (0 : Int32) → f_X8_takeWord 2 I_5 J_6 (fun (v_11 : Int32) (I_9 : MI) (J_10 : MJ) => ((v_11 = (0 : Int32) → f_X8_takeWord 3 I_9 J_10 (fun (v_15 : Int32) (I_13 : MI) (J_14 : MJ) => ((v_15 = (0 : Int32) → f_X8_takeWord 4 I_13 J_14 (fun (v_19 : Int32) (I_17 : MI) (J_18 : MJ) => ((v_19 = (0 : Int32) → f_X8_takeWord 5 I_17 J_18 (fun (v_23 : Int32) (I_21 : MI) (J_22 : MJ) => ((v_23 = (0 : Int32) → f_X8_takeWord 6 I_21 J_22 (fun (v_27 : Int32) (I_25 : MI) (J_26 : MJ) => ((v_27 = (0 : Int32) → f_X8_takeWord 7 I_25 J_26 (fun (v_31 : Int32) (I_29 : MI) (J_30 : MJ) => ((v_31 = (0 : Int32) → f_X8_report (-2 : Int32) x1_4 I_29 J_30 (fun (I_33 : MI) (J_34 : MJ) => f_X8_statement_J179 Q I_33 J_34)) ∧ (¬ v_31 = (0 : Int32) → f_X8_once (4 : Int32) x1_4 I_29 J_30 (fun (I_39 : MI) (J_40 : MJ) => (vp_in (8 : Int32) 1802 ∧ ∀ I_42 : MI, I_42 = sI I_39 12 3 (8 : Int32).toNatClampNeg (1 : Int32) → f_X8_readSum 7 I_42 J_40 (fun (I_43 : MI) (J_44 : MJ) => f_X8_statement_J179 Q I_43 J_44))))))) ∧ (¬ v_27 = (0 : Int32) → f_X8_readHand I_25 J_26 (fun (I_45 : MI) (J_46 : MJ) => f_X8_statement_J179 Q I_45 J_46))))) ∧ (¬ v_23 = (0 : Int32) → f_X8_readAlike I_21 J_22 (fun (I_47 : MI) (J_48 : MJ) => f_X8_statement_J179 Q I_47 J_48))))) ∧ (¬ v_19 = (0 : Int32) → f_X8_readValue (3 : Int32) (4 : Int32) x1_4 (0 : Int32) (99 : Int32) I_17 J_18 (fun (I_49 : MI) (J_50 : MJ) => f_X8_statement_J179 Q I_49 J_50))))) ∧ (¬ v_15 = (0 : Int32) → f_X8_readValue (2 : Int32) (3 : Int32) x1_4 (0 : Int32) (9 : Int32) I_13 J_14 (fun (I_51 : MI) (J_52 : MJ) => f_X8_statement_J179 Q I_51 J_52))))) ∧ (¬ v_11 = (0 : Int32) → f_X8_readValue (1 : Int32) (2 : Int32) x1_4 (1 : Int32) (4 : Int32) I_9 J_10 (fun (I_53 : MI) (J_54 : MJ) => f_X8_statement_J179 Q I_53 J_54))))) ∧ (¬ v_7 = (0 : Int32) → (((I_5 12 0 16) = (0 : Int32) → f_X8_statement_J33 Q x1_4 I_5 J_6) ∧ (¬ (I_5 12 0 16) = (0 : Int32) → f_X8_report (-2 : Int32) x1_4 I_5 J_6 (fun (I_61 : MI) (J_62 : MJ) => f_X8_statement_J33 Q x1_4 I_61 J_62)))))))
set_option maxRecDepth 100000 in
set_option maxHeartbeats 4000000 in
theorem c_X8_statement {l : Launch} {E : EV} {ps : List (Nat × Nat)} (h12 : ∀ r, r < 17 → (12, r) ∈ ps) {I : MI} {J : MJ} {Q : MI → MJ → Prop} (hf : f_X8_statement I J Q) : KV l yX8_statement wsX8_statement rmX8_statement E ps [.ref (eA E 12 0)] I J Q := by
  refine K_ofV (cc := cX8_statement) (maxL := 2) (by decide +kernel) rfl (Nat.le_of_ble_eq_true rfl) (fun p e s m args below meth c Qm hret S hK hX => ?_)
  have hA : ∀ q, s.heap.size ≤ q → AA E ps s.heap.size q := fun _ h => Or.inr h
  have k1 := S.2.2.2.2 (.fieldLink RX8 65 "RhymeRoofsModel" "position" "I") (by decide +kernel)
  have iX8 : ∀ w ∈ wsX80, w ∈ wsX8_statement := fun _ h => List.mem_cons_of_mem _ (List.mem_append_right _ h)
  have k2 := S.2.2.2.2 (.fieldLink RX8 20 "RhymeRoofsModel" "draft" "[I") (by decide +kernel)
  have k3 := S.2.2.2.2 (.fieldLink RX8 164 "RhymeRoofsModel" "hasHand" "Z") (by decide +kernel)
  have jn179 : ∀ (I_35 : MI) (J_36 : MJ), f_X8_statement_J179 Q I_35 J_36 → Wj p l e (rmX8_statement) s m args below meth c Qm E ps 2 I_35 J_36 179 [(0, .ref (eA E 12 0))] [] := by
    intro I_35 J_36 hf H locs ls hP hD hS hl
    unfold f_X8_statement_J179 at hf
    refine lv_aload_n S.1 S.2.1 dX8_statement_179 rfl (lv_at hl 0 rfl) ?_
    refine lv_bipush (v := 59) S.1 S.2.1 dX8_statement_180 rfl ?_
    refine R_cVv (As := [.int (59 : Int32)]) (rest := []) S (c_X8_expect (h12 := h12)  hf) gX8_statement_X8_expect rfl yk_X8_expect ⟨⟨Nat.le_of_ble_eq_true rfl, Nat.le_of_ble_eq_true rfl⟩, rfl, rfl⟩ hK hP hD hS hX hA (h12 0 (by decide)) (cF_m E _ _ 0) rfl rfl hl.1 rfl (Nat.le_of_ble_eq_true rfl) ⟨Nat.zero_le _, Nat.zero_le _⟩ dX8_statement_182 (fun I_37 J_38 H locs hf hP hD hS => ?_)
    exact hret hf hP hD hS dX8_statement_185
  have jn33 : ∀ (x1_56 : Int32) (I_57 : MI) (J_58 : MJ), f_X8_statement_J33 Q x1_56 I_57 J_58 → Wj p l e (rmX8_statement) s m args below meth c Qm E ps 2 I_57 J_58 33 [(0, .ref (eA E 12 0)), (1, .int x1_56)] [] := by
    intro x1_56 I_57 J_58 hf H locs ls hP hD hS hl
    unfold f_X8_statement_J33 at hf
    refine lv_aload_n S.1 S.2.1 dX8_statement_33 rfl (lv_at hl 0 rfl) ?_
    refine lv_iconst (v := 0) S.1 S.2.1 dX8_statement_34 rfl ?_
    refine lv_iconst (v := 1) S.1 S.2.1 dX8_statement_35 rfl ?_
    refine lv_iload_n S.1 S.2.1 dX8_statement_36 rfl (lv_at hl 1 rfl) ?_
    refine lv_iconst (v := 2) S.1 S.2.1 dX8_statement_37 rfl ?_
    refine lv_iconst (v := 4) S.1 S.2.1 dX8_statement_38 rfl ?_
    refine R_cVv (As := [.int (0 : Int32), .int (1 : Int32), .int x1_56, .int (2 : Int32), .int (4 : Int32)]) (rest := []) S (c_X8_readValue (h12 := h12)  hf) gX8_statement_X8_readValue rfl yk_X8_readValue ⟨⟨Nat.le_of_ble_eq_true rfl, Nat.le_of_ble_eq_true rfl⟩, rfl, rfl⟩ hK hP hD hS hX hA (h12 0 (by decide)) (cF_m E _ _ 0) rfl rfl hl.1 rfl (Nat.le_of_ble_eq_true rfl) ⟨Nat.zero_le _, Nat.zero_le _⟩ dX8_statement_39 (fun I_59 J_60 H locs hf hP hD hS => ?_)
    refine lv_goto (tgt := 179) S.1 S.2.1 dX8_statement_42 (by decide) ?_
    exact jn179 _ _ hf _ _ _ hP hD hS (lv_sub hl [0] rfl)
  intro H locs ls hP hD hS hl
  unfold f_X8_statement at hf
  refine lv_aload_n S.1 S.2.1 dX8_statement_0 rfl (lv_at hl 0 rfl) ?_
  refine R_cVi (As := []) (rest := []) S (c_X8_ahead (h12 := h12)  hf) gX8_statement_X8_ahead rfl yk_X8_ahead ⟨⟨Nat.le_of_ble_eq_true rfl, Nat.le_of_ble_eq_true rfl⟩, rfl, rfl⟩ hK hP hD hS hX hA (h12 0 (by decide)) (cF_m E _ _ 0) rfl rfl hl.1 rfl (Nat.le_of_ble_eq_true rfl) ⟨Nat.zero_le _, Nat.zero_le _⟩ dX8_statement_1 (fun v_3 I_1 J_2 H locs hf hP hD hS => ?_)
  refine lv_pop S.1 S.2.1 dX8_statement_4 rfl ?_
  refine lv_aload_n S.1 S.2.1 dX8_statement_5 rfl (lv_at hl 0 rfl) ?_
  refine gfX8_4 S iX8 hK hP (h12 0 (by decide)) k1 dX8_statement_6 ?_
  refine lv_topi (fun x1_4 ex1_4 => ?_)
  have hf := hf x1_4 ex1_4
  refine lv_istore_n (lv' := [(1, .int x1_4), (0, .ref (eA E 12 0))]) S.1 S.2.1 dX8_statement_9 rfl hl (by decide) rfl (fun ls hl => ?_)
  refine lv_aload_n S.1 S.2.1 dX8_statement_10 rfl (lv_at hl 1 rfl) ?_
  refine va_ldcS S.1 S.2.1 S.2.2.2.1 (sxvX8_174 hX) dX8_statement_11 ?_
  refine R_cVi (As := [.ref (eK E 1)]) (rest := []) S (c_X8_takeWord (h12 := h12) (hw := (by decide)) hf) gX8_statement_X8_takeWord rfl yk_X8_takeWord ⟨⟨Nat.le_of_ble_eq_true rfl, Nat.le_of_ble_eq_true rfl⟩, rfl, rfl⟩ hK hP hD hS hX hA (h12 0 (by decide)) (cF_m E _ _ 0) rfl rfl hl.1 rfl (Nat.le_of_ble_eq_true rfl) ⟨Nat.zero_le _, Nat.zero_le _⟩ dX8_statement_13 (fun v_7 I_5 J_6 H locs hf hP hD hS => ?_)
  refine lv_if_eq (tgt := 45) S.1 S.2.1 dX8_statement_16 (by decide) (fun h_8 => ?_) (fun h_8 => ?_)
  · have hf := hf.1 h_8
    refine lv_aload_n S.1 S.2.1 dX8_statement_45 rfl (lv_at hl 1 rfl) ?_
    refine va_ldcS S.1 S.2.1 S.2.2.2.1 (sxvX8_180 hX) dX8_statement_46 ?_
    refine R_cVi (As := [.ref (eK E 2)]) (rest := []) S (c_X8_takeWord (h12 := h12) (hw := (by decide)) hf) gX8_statement_X8_takeWord rfl yk_X8_takeWord ⟨⟨Nat.le_of_ble_eq_true rfl, Nat.le_of_ble_eq_true rfl⟩, rfl, rfl⟩ hK hP hD hS hX hA (h12 0 (by decide)) (cF_m E _ _ 0) rfl rfl hl.1 rfl (Nat.le_of_ble_eq_true rfl) ⟨Nat.zero_le _, Nat.zero_le _⟩ dX8_statement_48 (fun v_11 I_9 J_10 H locs hf hP hD hS => ?_)
    refine lv_if_eq (tgt := 66) S.1 S.2.1 dX8_statement_51 (by decide) (fun h_12 => ?_) (fun h_12 => ?_)
    · have hf := hf.1 h_12
      refine lv_aload_n S.1 S.2.1 dX8_statement_66 rfl (lv_at hl 1 rfl) ?_
      refine va_ldcS S.1 S.2.1 S.2.2.2.1 (sxvX8_182 hX) dX8_statement_67 ?_
      refine R_cVi (As := [.ref (eK E 3)]) (rest := []) S (c_X8_takeWord (h12 := h12) (hw := (by decide)) hf) gX8_statement_X8_takeWord rfl yk_X8_takeWord ⟨⟨Nat.le_of_ble_eq_true rfl, Nat.le_of_ble_eq_true rfl⟩, rfl, rfl⟩ hK hP hD hS hX hA (h12 0 (by decide)) (cF_m E _ _ 0) rfl rfl hl.1 rfl (Nat.le_of_ble_eq_true rfl) ⟨Nat.zero_le _, Nat.zero_le _⟩ dX8_statement_69 (fun v_15 I_13 J_14 H locs hf hP hD hS => ?_)
      refine lv_if_eq (tgt := 88) S.1 S.2.1 dX8_statement_72 (by decide) (fun h_16 => ?_) (fun h_16 => ?_)
      · have hf := hf.1 h_16
        refine lv_aload_n S.1 S.2.1 dX8_statement_88 rfl (lv_at hl 1 rfl) ?_
        refine va_ldcS S.1 S.2.1 S.2.2.2.1 (sxvX8_184 hX) dX8_statement_89 ?_
        refine R_cVi (As := [.ref (eK E 4)]) (rest := []) S (c_X8_takeWord (h12 := h12) (hw := (by decide)) hf) gX8_statement_X8_takeWord rfl yk_X8_takeWord ⟨⟨Nat.le_of_ble_eq_true rfl, Nat.le_of_ble_eq_true rfl⟩, rfl, rfl⟩ hK hP hD hS hX hA (h12 0 (by decide)) (cF_m E _ _ 0) rfl rfl hl.1 rfl (Nat.le_of_ble_eq_true rfl) ⟨Nat.zero_le _, Nat.zero_le _⟩ dX8_statement_91 (fun v_19 I_17 J_18 H locs hf hP hD hS => ?_)
        refine lv_if_eq (tgt := 110) S.1 S.2.1 dX8_statement_94 (by decide) (fun h_20 => ?_) (fun h_20 => ?_)
        · have hf := hf.1 h_20
          refine lv_aload_n S.1 S.2.1 dX8_statement_110 rfl (lv_at hl 1 rfl) ?_
          refine va_ldcS S.1 S.2.1 S.2.2.2.1 (sxvX8_186 hX) dX8_statement_111 ?_
          refine R_cVi (As := [.ref (eK E 5)]) (rest := []) S (c_X8_takeWord (h12 := h12) (hw := (by decide)) hf) gX8_statement_X8_takeWord rfl yk_X8_takeWord ⟨⟨Nat.le_of_ble_eq_true rfl, Nat.le_of_ble_eq_true rfl⟩, rfl, rfl⟩ hK hP hD hS hX hA (h12 0 (by decide)) (cF_m E _ _ 0) rfl rfl hl.1 rfl (Nat.le_of_ble_eq_true rfl) ⟨Nat.zero_le _, Nat.zero_le _⟩ dX8_statement_113 (fun v_23 I_21 J_22 H locs hf hP hD hS => ?_)
          refine lv_if_eq (tgt := 126) S.1 S.2.1 dX8_statement_116 (by decide) (fun h_24 => ?_) (fun h_24 => ?_)
          · have hf := hf.1 h_24
            refine lv_aload_n S.1 S.2.1 dX8_statement_126 rfl (lv_at hl 1 rfl) ?_
            refine va_ldcS S.1 S.2.1 S.2.2.2.1 (sxvX8_138 hX) dX8_statement_127 ?_
            refine R_cVi (As := [.ref (eK E 6)]) (rest := []) S (c_X8_takeWord (h12 := h12) (hw := (by decide)) hf) gX8_statement_X8_takeWord rfl yk_X8_takeWord ⟨⟨Nat.le_of_ble_eq_true rfl, Nat.le_of_ble_eq_true rfl⟩, rfl, rfl⟩ hK hP hD hS hX hA (h12 0 (by decide)) (cF_m E _ _ 0) rfl rfl hl.1 rfl (Nat.le_of_ble_eq_true rfl) ⟨Nat.zero_le _, Nat.zero_le _⟩ dX8_statement_129 (fun v_27 I_25 J_26 H locs hf hP hD hS => ?_)
            refine lv_if_eq (tgt := 142) S.1 S.2.1 dX8_statement_132 (by decide) (fun h_28 => ?_) (fun h_28 => ?_)
            · have hf := hf.1 h_28
              refine lv_aload_n S.1 S.2.1 dX8_statement_142 rfl (lv_at hl 1 rfl) ?_
              refine va_ldcS S.1 S.2.1 S.2.2.2.1 (sxvX8_194 hX) dX8_statement_143 ?_
              refine R_cVi (As := [.ref (eK E 7)]) (rest := []) S (c_X8_takeWord (h12 := h12) (hw := (by decide)) hf) gX8_statement_X8_takeWord rfl yk_X8_takeWord ⟨⟨Nat.le_of_ble_eq_true rfl, Nat.le_of_ble_eq_true rfl⟩, rfl, rfl⟩ hK hP hD hS hX hA (h12 0 (by decide)) (cF_m E _ _ 0) rfl rfl hl.1 rfl (Nat.le_of_ble_eq_true rfl) ⟨Nat.zero_le _, Nat.zero_le _⟩ dX8_statement_145 (fun v_31 I_29 J_30 H locs hf hP hD hS => ?_)
              refine lv_if_eq (tgt := 172) S.1 S.2.1 dX8_statement_148 (by decide) (fun h_32 => ?_) (fun h_32 => ?_)
              · have hf := hf.1 h_32
                refine lv_aload_n S.1 S.2.1 dX8_statement_172 rfl (lv_at hl 1 rfl) ?_
                refine lv_bipush (v := (-2)) S.1 S.2.1 dX8_statement_173 rfl ?_
                refine lv_iload_n S.1 S.2.1 dX8_statement_175 rfl (lv_at hl 0 rfl) ?_
                refine R_cVv (As := [.int (-2 : Int32), .int x1_4]) (rest := []) S (c_X8_report (h12 := h12)  hf) gX8_statement_X8_report rfl yk_X8_report ⟨⟨Nat.le_of_ble_eq_true rfl, Nat.le_of_ble_eq_true rfl⟩, rfl, rfl⟩ hK hP hD hS hX hA (h12 0 (by decide)) (cF_m E _ _ 0) rfl rfl hl.1 rfl (Nat.le_of_ble_eq_true rfl) ⟨Nat.zero_le _, Nat.zero_le _⟩ dX8_statement_176 (fun I_33 J_34 H locs hf hP hD hS => ?_)
                exact jn179 _ _ hf _ _ _ hP hD hS (lv_sub hl [1] rfl)
              · have hf := hf.2 h_32
                refine lv_aload_n S.1 S.2.1 dX8_statement_151 rfl (lv_at hl 1 rfl) ?_
                refine lv_iconst (v := 4) S.1 S.2.1 dX8_statement_152 rfl ?_
                refine lv_iload_n S.1 S.2.1 dX8_statement_153 rfl (lv_at hl 0 rfl) ?_
                refine R_cVv (As := [.int (4 : Int32), .int x1_4]) (rest := []) S (c_X8_once (h12 := h12)  hf) gX8_statement_X8_once rfl yk_X8_once ⟨⟨Nat.le_of_ble_eq_true rfl, Nat.le_of_ble_eq_true rfl⟩, rfl, rfl⟩ hK hP hD hS hX hA (h12 0 (by decide)) (cF_m E _ _ 0) rfl rfl hl.1 rfl (Nat.le_of_ble_eq_true rfl) ⟨Nat.zero_le _, Nat.zero_le _⟩ dX8_statement_154 (fun I_39 J_40 H locs hf hP hD hS => ?_)
                refine lv_aload_n S.1 S.2.1 dX8_statement_157 rfl (lv_at hl 1 rfl) ?_
                refine gfX8_9 S iX8 hK hP (h12 0 (by decide)) k2 dX8_statement_158 ?_
                refine lv_bipush (v := 8) S.1 S.2.1 dX8_statement_161 rfl ?_
                refine lv_iconst (v := 1) S.1 S.2.1 dX8_statement_163 rfl ?_
                obtain ⟨h_41, hf⟩ := hf
                refine nm_o hf (fun I_42 eI_42 hf => ?_)
                refine R_iast S.1 S.2.1 hK hP hD hS (h12 3 (by decide)) (IAm3 E) h_41 dX8_statement_164 eI_42 (fun H locs hP hD hS => ?_)
                refine lv_aload_n S.1 S.2.1 dX8_statement_165 rfl (lv_at hl 1 rfl) ?_
                refine R_cVv (As := []) (rest := []) S (c_X8_readSum 7 (h12 := h12)  hf) gX8_statement_X8_readSum rfl yk_X8_readSum ⟨⟨Nat.le_of_ble_eq_true rfl, Nat.le_of_ble_eq_true rfl⟩, rfl, rfl⟩ hK hP hD hS hX hA (h12 0 (by decide)) (cF_m E _ _ 0) rfl rfl hl.1 rfl (Nat.le_of_ble_eq_true rfl) ⟨Nat.zero_le _, Nat.zero_le _⟩ dX8_statement_166 (fun I_43 J_44 H locs hf hP hD hS => ?_)
                refine lv_goto (tgt := 179) S.1 S.2.1 dX8_statement_169 (by decide) ?_
                exact jn179 _ _ hf _ _ _ hP hD hS (lv_sub hl [1] rfl)
            · have hf := hf.2 h_28
              refine lv_aload_n S.1 S.2.1 dX8_statement_135 rfl (lv_at hl 1 rfl) ?_
              refine R_cVv (As := []) (rest := []) S (c_X8_readHand (h12 := h12)  hf) gX8_statement_X8_readHand rfl yk_X8_readHand ⟨⟨Nat.le_of_ble_eq_true rfl, Nat.le_of_ble_eq_true rfl⟩, rfl, rfl⟩ hK hP hD hS hX hA (h12 0 (by decide)) (cF_m E _ _ 0) rfl rfl hl.1 rfl (Nat.le_of_ble_eq_true rfl) ⟨Nat.zero_le _, Nat.zero_le _⟩ dX8_statement_136 (fun I_45 J_46 H locs hf hP hD hS => ?_)
              refine lv_goto (tgt := 179) S.1 S.2.1 dX8_statement_139 (by decide) ?_
              exact jn179 _ _ hf _ _ _ hP hD hS (lv_sub hl [1] rfl)
          · have hf := hf.2 h_24
            refine lv_aload_n S.1 S.2.1 dX8_statement_119 rfl (lv_at hl 1 rfl) ?_
            refine R_cVv (As := []) (rest := []) S (c_X8_readAlike (h12 := h12)  hf) gX8_statement_X8_readAlike rfl yk_X8_readAlike ⟨⟨Nat.le_of_ble_eq_true rfl, Nat.le_of_ble_eq_true rfl⟩, rfl, rfl⟩ hK hP hD hS hX hA (h12 0 (by decide)) (cF_m E _ _ 0) rfl rfl hl.1 rfl (Nat.le_of_ble_eq_true rfl) ⟨Nat.zero_le _, Nat.zero_le _⟩ dX8_statement_120 (fun I_47 J_48 H locs hf hP hD hS => ?_)
            refine lv_goto (tgt := 179) S.1 S.2.1 dX8_statement_123 (by decide) ?_
            exact jn179 _ _ hf _ _ _ hP hD hS (lv_sub hl [1] rfl)
        · have hf := hf.2 h_20
          refine lv_aload_n S.1 S.2.1 dX8_statement_97 rfl (lv_at hl 1 rfl) ?_
          refine lv_iconst (v := 3) S.1 S.2.1 dX8_statement_98 rfl ?_
          refine lv_iconst (v := 4) S.1 S.2.1 dX8_statement_99 rfl ?_
          refine lv_iload_n S.1 S.2.1 dX8_statement_100 rfl (lv_at hl 0 rfl) ?_
          refine lv_iconst (v := 0) S.1 S.2.1 dX8_statement_101 rfl ?_
          refine lv_bipush (v := 99) S.1 S.2.1 dX8_statement_102 rfl ?_
          refine R_cVv (As := [.int (3 : Int32), .int (4 : Int32), .int x1_4, .int (0 : Int32), .int (99 : Int32)]) (rest := []) S (c_X8_readValue (h12 := h12)  hf) gX8_statement_X8_readValue rfl yk_X8_readValue ⟨⟨Nat.le_of_ble_eq_true rfl, Nat.le_of_ble_eq_true rfl⟩, rfl, rfl⟩ hK hP hD hS hX hA (h12 0 (by decide)) (cF_m E _ _ 0) rfl rfl hl.1 rfl (Nat.le_of_ble_eq_true rfl) ⟨Nat.zero_le _, Nat.zero_le _⟩ dX8_statement_104 (fun I_49 J_50 H locs hf hP hD hS => ?_)
          refine lv_goto (tgt := 179) S.1 S.2.1 dX8_statement_107 (by decide) ?_
          exact jn179 _ _ hf _ _ _ hP hD hS (lv_sub hl [1] rfl)
      · have hf := hf.2 h_16
        refine lv_aload_n S.1 S.2.1 dX8_statement_75 rfl (lv_at hl 1 rfl) ?_
        refine lv_iconst (v := 2) S.1 S.2.1 dX8_statement_76 rfl ?_
        refine lv_iconst (v := 3) S.1 S.2.1 dX8_statement_77 rfl ?_
        refine lv_iload_n S.1 S.2.1 dX8_statement_78 rfl (lv_at hl 0 rfl) ?_
        refine lv_iconst (v := 0) S.1 S.2.1 dX8_statement_79 rfl ?_
        refine lv_bipush (v := 9) S.1 S.2.1 dX8_statement_80 rfl ?_
        refine R_cVv (As := [.int (2 : Int32), .int (3 : Int32), .int x1_4, .int (0 : Int32), .int (9 : Int32)]) (rest := []) S (c_X8_readValue (h12 := h12)  hf) gX8_statement_X8_readValue rfl yk_X8_readValue ⟨⟨Nat.le_of_ble_eq_true rfl, Nat.le_of_ble_eq_true rfl⟩, rfl, rfl⟩ hK hP hD hS hX hA (h12 0 (by decide)) (cF_m E _ _ 0) rfl rfl hl.1 rfl (Nat.le_of_ble_eq_true rfl) ⟨Nat.zero_le _, Nat.zero_le _⟩ dX8_statement_82 (fun I_51 J_52 H locs hf hP hD hS => ?_)
        refine lv_goto (tgt := 179) S.1 S.2.1 dX8_statement_85 (by decide) ?_
        exact jn179 _ _ hf _ _ _ hP hD hS (lv_sub hl [1] rfl)
    · have hf := hf.2 h_12
      refine lv_aload_n S.1 S.2.1 dX8_statement_54 rfl (lv_at hl 1 rfl) ?_
      refine lv_iconst (v := 1) S.1 S.2.1 dX8_statement_55 rfl ?_
      refine lv_iconst (v := 2) S.1 S.2.1 dX8_statement_56 rfl ?_
      refine lv_iload_n S.1 S.2.1 dX8_statement_57 rfl (lv_at hl 0 rfl) ?_
      refine lv_iconst (v := 1) S.1 S.2.1 dX8_statement_58 rfl ?_
      refine lv_iconst (v := 4) S.1 S.2.1 dX8_statement_59 rfl ?_
      refine R_cVv (As := [.int (1 : Int32), .int (2 : Int32), .int x1_4, .int (1 : Int32), .int (4 : Int32)]) (rest := []) S (c_X8_readValue (h12 := h12)  hf) gX8_statement_X8_readValue rfl yk_X8_readValue ⟨⟨Nat.le_of_ble_eq_true rfl, Nat.le_of_ble_eq_true rfl⟩, rfl, rfl⟩ hK hP hD hS hX hA (h12 0 (by decide)) (cF_m E _ _ 0) rfl rfl hl.1 rfl (Nat.le_of_ble_eq_true rfl) ⟨Nat.zero_le _, Nat.zero_le _⟩ dX8_statement_60 (fun I_53 J_54 H locs hf hP hD hS => ?_)
      refine lv_goto (tgt := 179) S.1 S.2.1 dX8_statement_63 (by decide) ?_
      exact jn179 _ _ hf _ _ _ hP hD hS (lv_sub hl [1] rfl)
  · have hf := hf.2 h_8
    refine lv_aload_n S.1 S.2.1 dX8_statement_19 rfl (lv_at hl 1 rfl) ?_
    refine gfX8_16 S iX8 hK hP (h12 0 (by decide)) k3 dX8_statement_20 ?_
    refine lv_if_eq (tgt := 33) S.1 S.2.1 dX8_statement_23 (by decide) (fun h_55 => ?_) (fun h_55 => ?_)
    · have hf := hf.1 h_55
      exact jn33 _ _ _ hf _ _ _ hP hD hS (lv_sub hl [1, 0] rfl)
    · have hf := hf.2 h_55
      refine lv_aload_n S.1 S.2.1 dX8_statement_26 rfl (lv_at hl 1 rfl) ?_
      refine lv_bipush (v := (-2)) S.1 S.2.1 dX8_statement_27 rfl ?_
      refine lv_iload_n S.1 S.2.1 dX8_statement_29 rfl (lv_at hl 0 rfl) ?_
      refine R_cVv (As := [.int (-2 : Int32), .int x1_4]) (rest := []) S (c_X8_report (h12 := h12)  hf) gX8_statement_X8_report rfl yk_X8_report ⟨⟨Nat.le_of_ble_eq_true rfl, Nat.le_of_ble_eq_true rfl⟩, rfl, rfl⟩ hK hP hD hS hX hA (h12 0 (by decide)) (cF_m E _ _ 0) rfl rfl hl.1 rfl (Nat.le_of_ble_eq_true rfl) ⟨Nat.zero_le _, Nat.zero_le _⟩ dX8_statement_30 (fun I_61 J_62 H locs hf hP hD hS => ?_)
      exact jn33 _ _ _ hf _ _ _ hP hD hS (lv_sub hl [1, 0] rfl)
abbrev rmX8_errorOffset : Room := { frames := 0, cells := 0, slots := 0, locals := 0 }
theorem yk_X8_errorOffset : yOk yX8_errorOffset RX8 0 := by unfold yOk; decide +kernel
def f_X8_errorOffset (I : MI) (J : MJ) (Q : Int32 → MI → MJ → Prop) : Prop :=
  ∀ I_1 : MI, I_1 = sI I 12 0 0 (0 : Int32) → Q (I_1 12 0 7) I_1 J
set_option maxRecDepth 100000 in
set_option maxHeartbeats 4000000 in
theorem c_X8_errorOffset {l : Launch} {E : EV} {ps : List (Nat × Nat)} (h12 : ∀ r, r < 17 → (12, r) ∈ ps) {I : MI} {J : MJ} {Q : Int32 → MI → MJ → Prop} (hf : f_X8_errorOffset I J Q) : KI l yX8_errorOffset wsX8_errorOffset rmX8_errorOffset E ps [.ref (eA E 12 0)] I J Q := by
  refine K_ofI (cc := cX8_errorOffset) (maxL := 1) (ty := .int) (by decide +kernel) rfl (Nat.le_of_ble_eq_true rfl) (fun p e s m args below meth c Qm hret S hK hX => ?_)
  have hA : ∀ q, s.heap.size ≤ q → AA E ps s.heap.size q := fun _ h => Or.inr h
  have k1 := S.2.2.2.2 (.fieldLink RX8 49 "RhymeRoofsModel" "thrown" "I") (by decide +kernel)
  have iX8 : ∀ w ∈ wsX80, w ∈ wsX8_errorOffset := fun _ h => List.mem_cons_of_mem _ (List.mem_append_right _ h)
  have k2 := S.2.2.2.2 (.fieldLink RX8 13 "RhymeRoofsModel" "errorOffset" "I") (by decide +kernel)
  intro H locs ls hP hD hS hl
  unfold f_X8_errorOffset at hf
  refine lv_aload_n S.1 S.2.1 dX8_errorOffset_0 rfl (lv_at hl 0 rfl) ?_
  refine lv_iconst (v := 0) S.1 S.2.1 dX8_errorOffset_1 rfl ?_
  refine nm_o hf (fun I_1 eI_1 hf => ?_)
  refine pfX8_0 S iX8 hK hP hD hS (h12 0 (by decide)) k1 dX8_errorOffset_2 eI_1 (fun H locs hP hD hS => ?_)
  refine lv_aload_n S.1 S.2.1 dX8_errorOffset_5 rfl (lv_at hl 0 rfl) ?_
  refine gfX8_7 S iX8 hK hP (h12 0 (by decide)) k2 dX8_errorOffset_6 ?_
  exact hret hf rfl hP hD hS dX8_errorOffset_9
abbrev rmX8_ofRow : Room := { frames := 1, cells := 0, slots := 0, locals := 20 }
theorem yk_X8_ofRow : yOk yX8_ofRow RX8 2 := by unfold yOk; decide +kernel
def f_X8_ofRow (x1 : Int32) (x2 : Int32) (I : MI) (J : MJ) (Q : Int32 → MI → MJ → Prop) : Prop :=
  f_X8_rowAt x1 I J (fun (v_3 : Int32) (I_1 : MI) (J_2 : MJ) => (vp_in (v_3 + x2) 1802 ∧ Q (I_1 12 2 (v_3 + x2).toNatClampNeg) I_1 J_2))
set_option maxRecDepth 100000 in
set_option maxHeartbeats 4000000 in
theorem c_X8_ofRow {l : Launch} {E : EV} {ps : List (Nat × Nat)} (h12 : ∀ r, r < 17 → (12, r) ∈ ps) {x1 : Int32} {x2 : Int32} {I : MI} {J : MJ} {Q : Int32 → MI → MJ → Prop} (hf : f_X8_ofRow x1 x2 I J Q) : KI l yX8_ofRow wsX8_ofRow rmX8_ofRow E ps [.ref (eA E 12 0), .int x1, .int x2] I J Q := by
  refine K_ofI (cc := cX8_ofRow) (maxL := 3) (ty := .int) (by decide +kernel) rfl (Nat.le_of_ble_eq_true rfl) (fun p e s m args below meth c Qm hret S hK hX => ?_)
  have hA : ∀ q, s.heap.size ≤ q → AA E ps s.heap.size q := fun _ h => Or.inr h
  have k1 := S.2.2.2.2 (.fieldLink RX8 17 "RhymeRoofsModel" "data" "[I") (by decide +kernel)
  have iX8 : ∀ w ∈ wsX80, w ∈ wsX8_ofRow := fun _ h => List.mem_cons_of_mem _ (List.mem_append_right _ h)
  intro H locs ls hP hD hS hl
  unfold f_X8_ofRow at hf
  refine lv_aload_n S.1 S.2.1 dX8_ofRow_0 rfl (lv_at hl 0 rfl) ?_
  refine gfX8_8 S iX8 hK hP (h12 0 (by decide)) k1 dX8_ofRow_1 ?_
  refine lv_iload_n S.1 S.2.1 dX8_ofRow_4 rfl (lv_at hl 1 rfl) ?_
  refine R_cSi (As := [.int x1]) (rest := [.ref (eA E 12 2)]) S (c_X8_rowAt   hf) gX8_ofRow_X8_rowAt rfl yk_X8_rowAt ⟨⟨Nat.le_of_ble_eq_true rfl, Nat.le_of_ble_eq_true rfl⟩, rfl, rfl⟩ hK hP hD hS hX hA rfl hl.1 rfl (Nat.le_of_ble_eq_true rfl) ⟨Nat.zero_le _, Nat.zero_le _⟩ dX8_ofRow_5 (fun v_3 I_1 J_2 H locs hf hP hD hS => ?_)
  refine lv_iload_n S.1 S.2.1 dX8_ofRow_8 rfl (lv_at hl 2 rfl) ?_
  refine lv_iadd S.1 S.2.1 dX8_ofRow_9 ?_
  obtain ⟨h_4, hf⟩ := hf
  refine R_iald S.1 S.2.1 hK hP (h12 2 (by decide)) (IAm2 E) h_4 dX8_ofRow_10 ?_
  exact hret hf rfl hP hD hS dX8_ofRow_11
abbrev rmX8_ofPlayer : Room := { frames := 1, cells := 0, slots := 0, locals := 20 }
theorem yk_X8_ofPlayer : yOk yX8_ofPlayer RX8 2 := by unfold yOk; decide +kernel
def f_X8_ofPlayer (x1 : Int32) (x2 : Int32) (I : MI) (J : MJ) (Q : Int32 → MI → MJ → Prop) : Prop :=
  f_X8_playerAt x1 I J (fun (v_3 : Int32) (I_1 : MI) (J_2 : MJ) => (vp_in (v_3 + x2) 1802 ∧ Q (I_1 12 2 (v_3 + x2).toNatClampNeg) I_1 J_2))
set_option maxRecDepth 100000 in
set_option maxHeartbeats 4000000 in
theorem c_X8_ofPlayer {l : Launch} {E : EV} {ps : List (Nat × Nat)} (h12 : ∀ r, r < 17 → (12, r) ∈ ps) {x1 : Int32} {x2 : Int32} {I : MI} {J : MJ} {Q : Int32 → MI → MJ → Prop} (hf : f_X8_ofPlayer x1 x2 I J Q) : KI l yX8_ofPlayer wsX8_ofPlayer rmX8_ofPlayer E ps [.ref (eA E 12 0), .int x1, .int x2] I J Q := by
  refine K_ofI (cc := cX8_ofPlayer) (maxL := 3) (ty := .int) (by decide +kernel) rfl (Nat.le_of_ble_eq_true rfl) (fun p e s m args below meth c Qm hret S hK hX => ?_)
  have hA : ∀ q, s.heap.size ≤ q → AA E ps s.heap.size q := fun _ h => Or.inr h
  have k1 := S.2.2.2.2 (.fieldLink RX8 17 "RhymeRoofsModel" "data" "[I") (by decide +kernel)
  have iX8 : ∀ w ∈ wsX80, w ∈ wsX8_ofPlayer := fun _ h => List.mem_cons_of_mem _ (List.mem_append_right _ h)
  intro H locs ls hP hD hS hl
  unfold f_X8_ofPlayer at hf
  refine lv_aload_n S.1 S.2.1 dX8_ofPlayer_0 rfl (lv_at hl 0 rfl) ?_
  refine gfX8_8 S iX8 hK hP (h12 0 (by decide)) k1 dX8_ofPlayer_1 ?_
  refine lv_iload_n S.1 S.2.1 dX8_ofPlayer_4 rfl (lv_at hl 1 rfl) ?_
  refine R_cSi (As := [.int x1]) (rest := [.ref (eA E 12 2)]) S (c_X8_playerAt   hf) gX8_ofPlayer_X8_playerAt rfl yk_X8_playerAt ⟨⟨Nat.le_of_ble_eq_true rfl, Nat.le_of_ble_eq_true rfl⟩, rfl, rfl⟩ hK hP hD hS hX hA rfl hl.1 rfl (Nat.le_of_ble_eq_true rfl) ⟨Nat.zero_le _, Nat.zero_le _⟩ dX8_ofPlayer_5 (fun v_3 I_1 J_2 H locs hf hP hD hS => ?_)
  refine lv_iload_n S.1 S.2.1 dX8_ofPlayer_8 rfl (lv_at hl 2 rfl) ?_
  refine lv_iadd S.1 S.2.1 dX8_ofPlayer_9 ?_
  obtain ⟨h_4, hf⟩ := hf
  refine R_iald S.1 S.2.1 hK hP (h12 2 (by decide)) (IAm2 E) h_4 dX8_ofPlayer_10 ?_
  exact hret hf rfl hP hD hS dX8_ofPlayer_11
