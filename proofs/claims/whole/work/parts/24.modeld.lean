abbrev rmX8_emit : Room := { frames := 1, cells := 0, slots := 0, locals := 20 }
theorem yk_X8_emit : yOk yX8_emit RX8 1 := by unfold yOk; decide +kernel
def f_X8_emit (x1 : Int32) (I : MI) (J : MJ) (Q : MI → MJ → Prop) : Prop :=
  f_X8_isGood I J (fun (v_3 : Int32) (I_1 : MI) (J_2 : MJ) => ((v_3 = (0 : Int32) → Q I_1 J_2) ∧ (¬ v_3 = (0 : Int32) → (vp_in (9 : Int32) 1802 ∧ (vp_in ((602 : Int32) + (I_1 12 3 (9 : Int32).toNatClampNeg)) 1802 ∧ ∀ I_7 : MI, I_7 = sI I_1 12 3 ((602 : Int32) + (I_1 12 3 (9 : Int32).toNatClampNeg)).toNatClampNeg x1 → (vp_in (9 : Int32) 1802 ∧ (vp_in (9 : Int32) 1802 ∧ ∀ I_10 : MI, I_10 = sI I_7 12 3 (9 : Int32).toNatClampNeg ((I_7 12 3 (9 : Int32).toNatClampNeg) + (1 : Int32)) → Q I_10 J_2)))))))
set_option maxRecDepth 100000 in
set_option maxHeartbeats 4000000 in
theorem c_X8_emit {l : Launch} {E : EV} {ps : List (Nat × Nat)} (h12 : ∀ r, r < 17 → (12, r) ∈ ps) {x1 : Int32} {I : MI} {J : MJ} {Q : MI → MJ → Prop} (hf : f_X8_emit x1 I J Q) : KV l yX8_emit wsX8_emit rmX8_emit E ps [.ref (eA E 12 0), .int x1] I J Q := by
  refine K_ofV (cc := cX8_emit) (maxL := 2) (by decide +kernel) rfl (Nat.le_of_ble_eq_true rfl) (fun p e s m args below meth c Qm hret S hK hX => ?_)
  have hA : ∀ q, s.heap.size ≤ q → AA E ps s.heap.size q := fun _ h => Or.inr h
  have k1 := S.2.2.2.2 (.fieldLink RX8 20 "RhymeRoofsModel" "draft" "[I") (by decide +kernel)
  have iX8 : ∀ w ∈ wsX80, w ∈ wsX8_emit := fun _ h => List.mem_cons_of_mem _ (List.mem_append_right _ h)
  intro H locs ls hP hD hS hl
  unfold f_X8_emit at hf
  refine lv_aload_n S.1 S.2.1 dX8_emit_0 rfl (lv_at hl 0 rfl) ?_
  refine R_cVi (As := []) (rest := []) S (c_X8_isGood (h12 := h12)  hf) gX8_emit_X8_isGood rfl yk_X8_isGood ⟨⟨Nat.le_of_ble_eq_true rfl, Nat.le_of_ble_eq_true rfl⟩, rfl, rfl⟩ hK hP hD hS hX hA (h12 0 (by decide)) (cF_m E _ _ 0) rfl rfl hl.1 rfl (Nat.le_of_ble_eq_true rfl) ⟨Nat.zero_le _, Nat.zero_le _⟩ dX8_emit_1 (fun v_3 I_1 J_2 H locs hf hP hD hS => ?_)
  refine lv_if_ne (tgt := 8) S.1 S.2.1 dX8_emit_4 (by decide) (fun h_4 => ?_) (fun h_4 => ?_)
  · have hf := hf.2 h_4
    refine lv_aload_n S.1 S.2.1 dX8_emit_8 rfl (lv_at hl 0 rfl) ?_
    refine gfX8_9 S iX8 hK hP (h12 0 (by decide)) k1 dX8_emit_9 ?_
    refine lv_sipush (v := 602) S.1 S.2.1 dX8_emit_12 rfl ?_
    refine lv_aload_n S.1 S.2.1 dX8_emit_15 rfl (lv_at hl 0 rfl) ?_
    refine gfX8_9 S iX8 hK hP (h12 0 (by decide)) k1 dX8_emit_16 ?_
    refine lv_bipush (v := 9) S.1 S.2.1 dX8_emit_19 rfl ?_
    obtain ⟨h_5, hf⟩ := hf
    refine R_iald S.1 S.2.1 hK hP (h12 3 (by decide)) (IAm3 E) h_5 dX8_emit_21 ?_
    refine lv_iadd S.1 S.2.1 dX8_emit_22 ?_
    refine lv_iload_n S.1 S.2.1 dX8_emit_23 rfl (lv_at hl 1 rfl) ?_
    obtain ⟨h_6, hf⟩ := hf
    refine nm_o hf (fun I_7 eI_7 hf => ?_)
    refine R_iast S.1 S.2.1 hK hP hD hS (h12 3 (by decide)) (IAm3 E) h_6 dX8_emit_24 eI_7 (fun H locs hP hD hS => ?_)
    refine lv_aload_n S.1 S.2.1 dX8_emit_25 rfl (lv_at hl 0 rfl) ?_
    refine gfX8_9 S iX8 hK hP (h12 0 (by decide)) k1 dX8_emit_26 ?_
    refine lv_bipush (v := 9) S.1 S.2.1 dX8_emit_29 rfl ?_
    refine lv_dup2_11 S.1 S.2.1 dX8_emit_31 rfl rfl ?_
    obtain ⟨h_8, hf⟩ := hf
    refine R_iald S.1 S.2.1 hK hP (h12 3 (by decide)) (IAm3 E) h_8 dX8_emit_32 ?_
    refine lv_iconst (v := 1) S.1 S.2.1 dX8_emit_33 rfl ?_
    refine lv_iadd S.1 S.2.1 dX8_emit_34 ?_
    obtain ⟨h_9, hf⟩ := hf
    refine nm_o hf (fun I_10 eI_10 hf => ?_)
    refine R_iast S.1 S.2.1 hK hP hD hS (h12 3 (by decide)) (IAm3 E) h_9 dX8_emit_35 eI_10 (fun H locs hP hD hS => ?_)
    exact hret hf hP hD hS dX8_emit_36
  · have hf := hf.1 h_4
    exact hret hf hP hD hS dX8_emit_7
abbrev rmX8_readSum (d : Nat) : Room := { frames := 3 * d + 5, cells := 0, slots := 0, locals := 65 * d + 128 }
theorem yk_X8_readSum : yOk yX8_readSum RX8 0 := by unfold yOk; decide +kernel
abbrev rmX8_factor (d : Nat) : Room := { frames := 3 * d + 6, cells := 0, slots := 0, locals := 65 * d + 149 }
theorem yk_X8_factor : yOk yX8_factor RX8 0 := by unfold yOk; decide +kernel
def f_X8_factor_J196 (rs : MI → MJ → (MI → MJ → Prop) → Prop) (Q : MI → MJ → Prop) (x3_46 : Int32) (s_47 : Int32) (I_48 : MI) (J_49 : MJ) : Prop :=
  f_X8_emit s_47 I_48 J_49 (fun (I_50 : MI) (J_51 : MJ) => f_X8_emit x3_46 I_50 J_51 (fun (I_52 : MI) (J_53 : MJ) => Q I_52 J_53))
def f_X8_factor_J185 (rs : MI → MJ → (MI → MJ → Prop) → Prop) (Q : MI → MJ → Prop) (x2_41 : Int32) (s_42 : Int32) (I_43 : MI) (J_44 : MJ) : Prop :=
  (((0 : Int32) ≤ x2_41 → f_X8_factor_J196 rs Q s_42 (1 : Int32) I_43 J_44) ∧ (¬ (0 : Int32) ≤ x2_41 → f_X8_factor_J196 rs Q s_42 (0 : Int32) I_43 J_44))
def f_X8_factor_J168 (rs : MI → MJ → (MI → MJ → Prop) → Prop) (Q : MI → MJ → Prop) (s_37 : Int32) (I_38 : MI) (J_39 : MJ) : Prop :=
  (((0 : Int32) ≤ s_37 → f_X8_factor_J185 rs Q s_37 s_37 I_38 J_39) ∧ (¬ (0 : Int32) ≤ s_37 → f_X8_number (0 : Int32) (9999 : Int32) I_38 J_39 (fun (v_56 : Int32) (I_54 : MI) (J_55 : MJ) => f_X8_factor_J185 rs Q s_37 v_56 I_54 J_55)))
def f_X8_factor_J37 (rs : MI → MJ → (MI → MJ → Prop) → Prop) (Q : MI → MJ → Prop) (I_58 : MI) (J_59 : MJ) : Prop :=
  ∀ I_60 : MI, I_60 = sI I_58 12 0 4 ((I_58 12 0 4) + (1 : Int32)) → ∀ I_61 : MI, I_61 = sI I_60 12 0 14 ((I_60 12 0 14) + (1 : Int32)) → rs I_61 J_59 (fun (I_62 : MI) (J_63 : MJ) => f_X8_expect (41 : Int32) I_62 J_63 (fun (I_64 : MI) (J_65 : MJ) => ∀ I_66 : MI, I_66 = sI I_64 12 0 14 ((I_64 12 0 14) - (1 : Int32)) → Q I_66 J_65))
def f_X8_factor (rs : MI → MJ → (MI → MJ → Prop) → Prop) (I : MI) (J : MJ) (Q : MI → MJ → Prop) : Prop :=
  f_X8_isGood I J (fun (v_3 : Int32) (I_1 : MI) (J_2 : MJ) => ((v_3 = (0 : Int32) → Q I_1 J_2) ∧ (¬ v_3 = (0 : Int32) → f_X8_ahead I_1 J_2 (fun (v_7 : Int32) (I_5 : MI) (J_6 : MJ) => ((v_7 = (40 : Int32) → (((I_5 12 0 14) = (4 : Int32) → f_X8_report (-6 : Int32) (I_5 12 0 4) I_5 J_6 (fun (I_67 : MI) (J_68 : MJ) => f_X8_factor_J37 rs Q I_67 J_68)) ∧ (¬ (I_5 12 0 14) = (4 : Int32) → f_X8_factor_J37 rs Q I_5 J_6))) ∧ (¬ v_7 = (40 : Int32) → f_X8_isDigit v_7 I_5 J_6 (fun (v_11 : Int32) (I_9 : MI) (J_10 : MJ) => ((v_11 = (0 : Int32) → f_X8_takeWord 8 I_9 J_10 (fun (v_15 : Int32) (I_13 : MI) (J_14 : MJ) => ((v_15 = (0 : Int32) → f_X8_takeWord 9 I_13 J_14 (fun (v_19 : Int32) (I_17 : MI) (J_18 : MJ) => ((v_19 = (0 : Int32) → f_X8_takeWord 10 I_17 J_18 (fun (v_23 : Int32) (I_21 : MI) (J_22 : MJ) => ((v_23 = (0 : Int32) → f_X8_takeWord 11 I_21 J_22 (fun (v_27 : Int32) (I_25 : MI) (J_26 : MJ) => ((v_27 = (0 : Int32) → f_X8_takeWord 12 I_25 J_26 (fun (v_31 : Int32) (I_29 : MI) (J_30 : MJ) => ((v_31 = (0 : Int32) → f_X8_takeWord 6 I_29 J_30 (fun (v_35 : Int32) (I_33 : MI) (J_34 : MJ) => ((v_35 = (0 : Int32) → f_X8_factor_J168 rs Q (-1 : Int32) I_33 J_34) ∧ (¬ v_35 = (0 : Int32) → f_X8_factor_J168 rs Q (5 : Int32) I_33 J_34)))) ∧ (¬ v_31 = (0 : Int32) → f_X8_factor_J168 rs Q (4 : Int32) I_29 J_30)))) ∧ (¬ v_27 = (0 : Int32) → f_X8_factor_J168 rs Q (3 : Int32) I_25 J_26)))) ∧ (¬ v_23 = (0 : Int32) → f_X8_factor_J168 rs Q (2 : Int32) I_21 J_22)))) ∧ (¬ v_19 = (0 : Int32) → f_X8_factor_J168 rs Q (1 : Int32) I_17 J_18)))) ∧ (¬ v_15 = (0 : Int32) → f_X8_factor_J168 rs Q (0 : Int32) I_13 J_14)))) ∧ (¬ v_11 = (0 : Int32) → f_X8_factor_J168 rs Q (-1 : Int32) I_9 J_10)))))))))
set_option maxRecDepth 100000 in
set_option maxHeartbeats 4000000 in
theorem c_X8_factor {d : Nat} {rs : MI → MJ → (MI → MJ → Prop) → Prop} {l : Launch} {E : EV} {ps : List (Nat × Nat)} (hrs : ∀ {I : MI} {J : MJ} {Q : MI → MJ → Prop}, rs I J Q → KV l yX8_readSum wsX8_readSum (rmX8_readSum d) E ps [.ref (eA E 12 0)] I J Q) (h12 : ∀ r, r < 17 → (12, r) ∈ ps) {I : MI} {J : MJ} {Q : MI → MJ → Prop} (hf : f_X8_factor rs I J Q) : KV l yX8_factor wsX8_factor (rmX8_factor d) E ps [.ref (eA E 12 0)] I J Q := by
  refine K_ofV (cc := cX8_factor) (maxL := 4) (by decide +kernel) rfl (Nat.le_of_ble_eq_true rfl) (fun p e s m args below meth c Qm hret S hK hX => ?_)
  have hA : ∀ q, s.heap.size ≤ q → AA E ps s.heap.size q := fun _ h => Or.inr h
  have k1 := S.2.2.2.2 (.fieldLink RX8 114 "RhymeRoofsModel" "nesting" "I") (by decide +kernel)
  have iX8 : ∀ w ∈ wsX80, w ∈ wsX8_factor := fun _ h => List.mem_cons_of_mem _ (List.mem_append_right _ h)
  have k2 := S.2.2.2.2 (.fieldLink RX8 65 "RhymeRoofsModel" "position" "I") (by decide +kernel)
  have jn196 : ∀ (x3_46 : Int32) (s_47 : Int32) (I_48 : MI) (J_49 : MJ), f_X8_factor_J196 rs Q x3_46 s_47 I_48 J_49 → Wj p l e (rmX8_factor d) s m args below meth c Qm E ps 4 I_48 J_49 196 [(0, .ref (eA E 12 0)), (3, .int x3_46)] [.int s_47, .ref (eA E 12 0)] := by
    intro x3_46 s_47 I_48 J_49 hf H locs ls hP hD hS hl
    unfold f_X8_factor_J196 at hf
    refine R_cVv (As := [.int s_47]) (rest := []) S (c_X8_emit (h12 := h12)  hf) gX8_factor_X8_emit rfl yk_X8_emit ⟨⟨by dsimp only [rmX8_emit, rmX8_factor]; omega, by dsimp only [rmX8_emit, rmX8_factor]; omega⟩, rfl, rfl⟩ hK hP hD hS hX hA (h12 0 (by decide)) (cF_m E _ _ 0) rfl rfl hl.1 rfl (Nat.le_of_ble_eq_true rfl) ⟨Nat.zero_le _, Nat.zero_le _⟩ dX8_factor_196 (fun I_50 J_51 H locs hf hP hD hS => ?_)
    refine lv_aload_n S.1 S.2.1 dX8_factor_199 rfl (lv_at hl 0 rfl) ?_
    refine lv_iload_n S.1 S.2.1 dX8_factor_200 rfl (lv_at hl 1 rfl) ?_
    refine R_cVv (As := [.int x3_46]) (rest := []) S (c_X8_emit (h12 := h12)  hf) gX8_factor_X8_emit rfl yk_X8_emit ⟨⟨by dsimp only [rmX8_emit, rmX8_factor]; omega, by dsimp only [rmX8_emit, rmX8_factor]; omega⟩, rfl, rfl⟩ hK hP hD hS hX hA (h12 0 (by decide)) (cF_m E _ _ 0) rfl rfl hl.1 rfl (Nat.le_of_ble_eq_true rfl) ⟨Nat.zero_le _, Nat.zero_le _⟩ dX8_factor_201 (fun I_52 J_53 H locs hf hP hD hS => ?_)
    exact hret hf hP hD hS dX8_factor_204
  have jn185 : ∀ (x2_41 : Int32) (s_42 : Int32) (I_43 : MI) (J_44 : MJ), f_X8_factor_J185 rs Q x2_41 s_42 I_43 J_44 → Wj p l e (rmX8_factor d) s m args below meth c Qm E ps 4 I_43 J_44 185 [(0, .ref (eA E 12 0)), (2, .int x2_41)] [.int s_42] := by
    intro x2_41 s_42 I_43 J_44 hf H locs ls hP hD hS hl
    unfold f_X8_factor_J185 at hf
    refine lv_istore_n (lv' := [(3, .int s_42), (0, .ref (eA E 12 0)), (2, .int x2_41)]) S.1 S.2.1 dX8_factor_185 rfl hl (by decide) rfl (fun ls hl => ?_)
    refine lv_aload_n S.1 S.2.1 dX8_factor_186 rfl (lv_at hl 1 rfl) ?_
    refine lv_iload_n S.1 S.2.1 dX8_factor_187 rfl (lv_at hl 2 rfl) ?_
    refine lv_if_ge (tgt := 195) S.1 S.2.1 dX8_factor_188 (by decide) (fun h_45 => ?_) (fun h_45 => ?_)
    · have hf := hf.1 h_45
      refine lv_iconst (v := 1) S.1 S.2.1 dX8_factor_195 rfl ?_
      exact jn196 _ _ _ _ hf _ _ _ hP hD hS (lv_sub hl [1, 0] rfl)
    · have hf := hf.2 h_45
      refine lv_iconst (v := 0) S.1 S.2.1 dX8_factor_191 rfl ?_
      refine lv_goto (tgt := 196) S.1 S.2.1 dX8_factor_192 (by decide) ?_
      exact jn196 _ _ _ _ hf _ _ _ hP hD hS (lv_sub hl [1, 0] rfl)
  have jn168 : ∀ (s_37 : Int32) (I_38 : MI) (J_39 : MJ), f_X8_factor_J168 rs Q s_37 I_38 J_39 → Wj p l e (rmX8_factor d) s m args below meth c Qm E ps 4 I_38 J_39 168 [(0, .ref (eA E 12 0))] [.int s_37] := by
    intro s_37 I_38 J_39 hf H locs ls hP hD hS hl
    unfold f_X8_factor_J168 at hf
    refine lv_istore_n (lv' := [(2, .int s_37), (0, .ref (eA E 12 0))]) S.1 S.2.1 dX8_factor_168 rfl hl (by decide) rfl (fun ls hl => ?_)
    refine lv_iload_n S.1 S.2.1 dX8_factor_169 rfl (lv_at hl 0 rfl) ?_
    refine lv_if_ge (tgt := 184) S.1 S.2.1 dX8_factor_170 (by decide) (fun h_40 => ?_) (fun h_40 => ?_)
    · have hf := hf.1 h_40
      refine lv_iload_n S.1 S.2.1 dX8_factor_184 rfl (lv_at hl 0 rfl) ?_
      exact jn185 _ _ _ _ hf _ _ _ hP hD hS (lv_sub hl [1, 0] rfl)
    · have hf := hf.2 h_40
      refine lv_aload_n S.1 S.2.1 dX8_factor_173 rfl (lv_at hl 1 rfl) ?_
      refine lv_iconst (v := 0) S.1 S.2.1 dX8_factor_174 rfl ?_
      refine lv_sipush (v := 9999) S.1 S.2.1 dX8_factor_175 rfl ?_
      refine R_cVi (As := [.int (0 : Int32), .int (9999 : Int32)]) (rest := []) S (c_X8_number (h12 := h12)  hf) gX8_factor_X8_number rfl yk_X8_number ⟨⟨by dsimp only [rmX8_number, rmX8_factor]; omega, by dsimp only [rmX8_number, rmX8_factor]; omega⟩, rfl, rfl⟩ hK hP hD hS hX hA (h12 0 (by decide)) (cF_m E _ _ 0) rfl rfl hl.1 rfl (Nat.le_of_ble_eq_true rfl) ⟨Nat.zero_le _, Nat.zero_le _⟩ dX8_factor_178 (fun v_56 I_54 J_55 H locs hf hP hD hS => ?_)
      refine lv_goto (tgt := 185) S.1 S.2.1 dX8_factor_181 (by decide) ?_
      exact jn185 _ _ _ _ hf _ _ _ hP hD hS (lv_sub hl [1, 0] rfl)
  have jn37 : ∀ (I_58 : MI) (J_59 : MJ), f_X8_factor_J37 rs Q I_58 J_59 → Wj p l e (rmX8_factor d) s m args below meth c Qm E ps 4 I_58 J_59 37 [(0, .ref (eA E 12 0))] [] := by
    intro I_58 J_59 hf H locs ls hP hD hS hl
    unfold f_X8_factor_J37 at hf
    refine lv_aload_n S.1 S.2.1 dX8_factor_37 rfl (lv_at hl 0 rfl) ?_
    refine lv_dup S.1 S.2.1 dX8_factor_38 rfl ?_
    refine gfX8_4 S iX8 hK hP (h12 0 (by decide)) k2 dX8_factor_39 ?_
    refine lv_iconst (v := 1) S.1 S.2.1 dX8_factor_42 rfl ?_
    refine lv_iadd S.1 S.2.1 dX8_factor_43 ?_
    refine nm_o hf (fun I_60 eI_60 hf => ?_)
    refine pfX8_4 S iX8 hK hP hD hS (h12 0 (by decide)) k2 dX8_factor_44 eI_60 (fun H locs hP hD hS => ?_)
    refine lv_aload_n S.1 S.2.1 dX8_factor_47 rfl (lv_at hl 0 rfl) ?_
    refine lv_dup S.1 S.2.1 dX8_factor_48 rfl ?_
    refine gfX8_14 S iX8 hK hP (h12 0 (by decide)) k1 dX8_factor_49 ?_
    refine lv_iconst (v := 1) S.1 S.2.1 dX8_factor_52 rfl ?_
    refine lv_iadd S.1 S.2.1 dX8_factor_53 ?_
    refine nm_o hf (fun I_61 eI_61 hf => ?_)
    refine pfX8_14 S iX8 hK hP hD hS (h12 0 (by decide)) k1 dX8_factor_54 eI_61 (fun H locs hP hD hS => ?_)
    refine lv_aload_n S.1 S.2.1 dX8_factor_57 rfl (lv_at hl 0 rfl) ?_
    refine R_cVv (As := []) (rest := []) S (hrs hf) gX8_factor_X8_readSum rfl yk_X8_readSum ⟨⟨by dsimp only [rmX8_readSum, rmX8_factor]; omega, by dsimp only [rmX8_readSum, rmX8_factor]; omega⟩, rfl, rfl⟩ hK hP hD hS hX hA (h12 0 (by decide)) (cF_m E _ _ 0) rfl rfl hl.1 rfl (Nat.le_of_ble_eq_true rfl) ⟨Nat.zero_le _, Nat.zero_le _⟩ dX8_factor_58 (fun I_62 J_63 H locs hf hP hD hS => ?_)
    refine lv_aload_n S.1 S.2.1 dX8_factor_61 rfl (lv_at hl 0 rfl) ?_
    refine lv_bipush (v := 41) S.1 S.2.1 dX8_factor_62 rfl ?_
    refine R_cVv (As := [.int (41 : Int32)]) (rest := []) S (c_X8_expect (h12 := h12)  hf) gX8_factor_X8_expect rfl yk_X8_expect ⟨⟨by dsimp only [rmX8_expect, rmX8_factor]; omega, by dsimp only [rmX8_expect, rmX8_factor]; omega⟩, rfl, rfl⟩ hK hP hD hS hX hA (h12 0 (by decide)) (cF_m E _ _ 0) rfl rfl hl.1 rfl (Nat.le_of_ble_eq_true rfl) ⟨Nat.zero_le _, Nat.zero_le _⟩ dX8_factor_64 (fun I_64 J_65 H locs hf hP hD hS => ?_)
    refine lv_aload_n S.1 S.2.1 dX8_factor_67 rfl (lv_at hl 0 rfl) ?_
    refine lv_dup S.1 S.2.1 dX8_factor_68 rfl ?_
    refine gfX8_14 S iX8 hK hP (h12 0 (by decide)) k1 dX8_factor_69 ?_
    refine lv_iconst (v := 1) S.1 S.2.1 dX8_factor_72 rfl ?_
    refine lv_isub S.1 S.2.1 dX8_factor_73 ?_
    refine nm_o hf (fun I_66 eI_66 hf => ?_)
    refine pfX8_14 S iX8 hK hP hD hS (h12 0 (by decide)) k1 dX8_factor_74 eI_66 (fun H locs hP hD hS => ?_)
    exact hret hf hP hD hS dX8_factor_77
  intro H locs ls hP hD hS hl
  unfold f_X8_factor at hf
  refine lv_aload_n S.1 S.2.1 dX8_factor_0 rfl (lv_at hl 0 rfl) ?_
  refine R_cVi (As := []) (rest := []) S (c_X8_isGood (h12 := h12)  hf) gX8_factor_X8_isGood rfl yk_X8_isGood ⟨⟨by dsimp only [rmX8_isGood, rmX8_factor]; omega, by dsimp only [rmX8_isGood, rmX8_factor]; omega⟩, rfl, rfl⟩ hK hP hD hS hX hA (h12 0 (by decide)) (cF_m E _ _ 0) rfl rfl hl.1 rfl (Nat.le_of_ble_eq_true rfl) ⟨Nat.zero_le _, Nat.zero_le _⟩ dX8_factor_1 (fun v_3 I_1 J_2 H locs hf hP hD hS => ?_)
  refine lv_if_ne (tgt := 8) S.1 S.2.1 dX8_factor_4 (by decide) (fun h_4 => ?_) (fun h_4 => ?_)
  · have hf := hf.2 h_4
    refine lv_aload_n S.1 S.2.1 dX8_factor_8 rfl (lv_at hl 0 rfl) ?_
    refine R_cVi (As := []) (rest := []) S (c_X8_ahead (h12 := h12)  hf) gX8_factor_X8_ahead rfl yk_X8_ahead ⟨⟨by dsimp only [rmX8_ahead, rmX8_factor]; omega, by dsimp only [rmX8_ahead, rmX8_factor]; omega⟩, rfl, rfl⟩ hK hP hD hS hX hA (h12 0 (by decide)) (cF_m E _ _ 0) rfl rfl hl.1 rfl (Nat.le_of_ble_eq_true rfl) ⟨Nat.zero_le _, Nat.zero_le _⟩ dX8_factor_9 (fun v_7 I_5 J_6 H locs hf hP hD hS => ?_)
    refine lv_istore_n (lv' := [(1, .int v_7), (0, .ref (eA E 12 0))]) S.1 S.2.1 dX8_factor_12 rfl hl (by decide) rfl (fun ls hl => ?_)
    refine lv_iload_n S.1 S.2.1 dX8_factor_13 rfl (lv_at hl 0 rfl) ?_
    refine lv_bipush (v := 40) S.1 S.2.1 dX8_factor_14 rfl ?_
    refine lv_icmp_ne (tgt := 78) S.1 S.2.1 dX8_factor_16 (by decide) (fun h_8 => ?_) (fun h_8 => ?_)
    · have hf := hf.2 h_8
      refine lv_iload_n S.1 S.2.1 dX8_factor_78 rfl (lv_at hl 0 rfl) ?_
      refine R_cSi (As := [.int v_7]) (rest := []) S (c_X8_isDigit   hf) gX8_factor_X8_isDigit rfl yk_X8_isDigit ⟨⟨by dsimp only [rmX8_isDigit, rmX8_factor]; omega, by dsimp only [rmX8_isDigit, rmX8_factor]; omega⟩, rfl, rfl⟩ hK hP hD hS hX hA rfl hl.1 rfl (Nat.le_of_ble_eq_true rfl) ⟨Nat.zero_le _, Nat.zero_le _⟩ dX8_factor_79 (fun v_11 I_9 J_10 H locs hf hP hD hS => ?_)
      refine lv_if_eq (tgt := 89) S.1 S.2.1 dX8_factor_82 (by decide) (fun h_12 => ?_) (fun h_12 => ?_)
      · have hf := hf.1 h_12
        refine lv_aload_n S.1 S.2.1 dX8_factor_89 rfl (lv_at hl 1 rfl) ?_
        refine va_ldcS S.1 S.2.1 S.2.2.2.1 (sxvX8_124 hX) dX8_factor_90 ?_
        refine R_cVi (As := [.ref (eK E 8)]) (rest := []) S (c_X8_takeWord (h12 := h12) (hw := (by decide)) hf) gX8_factor_X8_takeWord rfl yk_X8_takeWord ⟨⟨by dsimp only [rmX8_takeWord, rmX8_factor]; omega, by dsimp only [rmX8_takeWord, rmX8_factor]; omega⟩, rfl, rfl⟩ hK hP hD hS hX hA (h12 0 (by decide)) (cF_m E _ _ 0) rfl rfl hl.1 rfl (Nat.le_of_ble_eq_true rfl) ⟨Nat.zero_le _, Nat.zero_le _⟩ dX8_factor_92 (fun v_15 I_13 J_14 H locs hf hP hD hS => ?_)
        refine lv_if_eq (tgt := 102) S.1 S.2.1 dX8_factor_95 (by decide) (fun h_16 => ?_) (fun h_16 => ?_)
        · have hf := hf.1 h_16
          refine lv_aload_n S.1 S.2.1 dX8_factor_102 rfl (lv_at hl 1 rfl) ?_
          refine va_ldcS S.1 S.2.1 S.2.2.2.1 (sxvX8_130 hX) dX8_factor_103 ?_
          refine R_cVi (As := [.ref (eK E 9)]) (rest := []) S (c_X8_takeWord (h12 := h12) (hw := (by decide)) hf) gX8_factor_X8_takeWord rfl yk_X8_takeWord ⟨⟨by dsimp only [rmX8_takeWord, rmX8_factor]; omega, by dsimp only [rmX8_takeWord, rmX8_factor]; omega⟩, rfl, rfl⟩ hK hP hD hS hX hA (h12 0 (by decide)) (cF_m E _ _ 0) rfl rfl hl.1 rfl (Nat.le_of_ble_eq_true rfl) ⟨Nat.zero_le _, Nat.zero_le _⟩ dX8_factor_105 (fun v_19 I_17 J_18 H locs hf hP hD hS => ?_)
          refine lv_if_eq (tgt := 115) S.1 S.2.1 dX8_factor_108 (by decide) (fun h_20 => ?_) (fun h_20 => ?_)
          · have hf := hf.1 h_20
            refine lv_aload_n S.1 S.2.1 dX8_factor_115 rfl (lv_at hl 1 rfl) ?_
            refine va_ldcS S.1 S.2.1 S.2.2.2.1 (sxvX8_132 hX) dX8_factor_116 ?_
            refine R_cVi (As := [.ref (eK E 10)]) (rest := []) S (c_X8_takeWord (h12 := h12) (hw := (by decide)) hf) gX8_factor_X8_takeWord rfl yk_X8_takeWord ⟨⟨by dsimp only [rmX8_takeWord, rmX8_factor]; omega, by dsimp only [rmX8_takeWord, rmX8_factor]; omega⟩, rfl, rfl⟩ hK hP hD hS hX hA (h12 0 (by decide)) (cF_m E _ _ 0) rfl rfl hl.1 rfl (Nat.le_of_ble_eq_true rfl) ⟨Nat.zero_le _, Nat.zero_le _⟩ dX8_factor_118 (fun v_23 I_21 J_22 H locs hf hP hD hS => ?_)
            refine lv_if_eq (tgt := 128) S.1 S.2.1 dX8_factor_121 (by decide) (fun h_24 => ?_) (fun h_24 => ?_)
            · have hf := hf.1 h_24
              refine lv_aload_n S.1 S.2.1 dX8_factor_128 rfl (lv_at hl 1 rfl) ?_
              refine va_ldcS S.1 S.2.1 S.2.2.2.1 (sxvX8_134 hX) dX8_factor_129 ?_
              refine R_cVi (As := [.ref (eK E 11)]) (rest := []) S (c_X8_takeWord (h12 := h12) (hw := (by decide)) hf) gX8_factor_X8_takeWord rfl yk_X8_takeWord ⟨⟨by dsimp only [rmX8_takeWord, rmX8_factor]; omega, by dsimp only [rmX8_takeWord, rmX8_factor]; omega⟩, rfl, rfl⟩ hK hP hD hS hX hA (h12 0 (by decide)) (cF_m E _ _ 0) rfl rfl hl.1 rfl (Nat.le_of_ble_eq_true rfl) ⟨Nat.zero_le _, Nat.zero_le _⟩ dX8_factor_131 (fun v_27 I_25 J_26 H locs hf hP hD hS => ?_)
              refine lv_if_eq (tgt := 141) S.1 S.2.1 dX8_factor_134 (by decide) (fun h_28 => ?_) (fun h_28 => ?_)
              · have hf := hf.1 h_28
                refine lv_aload_n S.1 S.2.1 dX8_factor_141 rfl (lv_at hl 1 rfl) ?_
                refine va_ldcS S.1 S.2.1 S.2.2.2.1 (sxvX8_136 hX) dX8_factor_142 ?_
                refine R_cVi (As := [.ref (eK E 12)]) (rest := []) S (c_X8_takeWord (h12 := h12) (hw := (by decide)) hf) gX8_factor_X8_takeWord rfl yk_X8_takeWord ⟨⟨by dsimp only [rmX8_takeWord, rmX8_factor]; omega, by dsimp only [rmX8_takeWord, rmX8_factor]; omega⟩, rfl, rfl⟩ hK hP hD hS hX hA (h12 0 (by decide)) (cF_m E _ _ 0) rfl rfl hl.1 rfl (Nat.le_of_ble_eq_true rfl) ⟨Nat.zero_le _, Nat.zero_le _⟩ dX8_factor_144 (fun v_31 I_29 J_30 H locs hf hP hD hS => ?_)
                refine lv_if_eq (tgt := 154) S.1 S.2.1 dX8_factor_147 (by decide) (fun h_32 => ?_) (fun h_32 => ?_)
                · have hf := hf.1 h_32
                  refine lv_aload_n S.1 S.2.1 dX8_factor_154 rfl (lv_at hl 1 rfl) ?_
                  refine va_ldcS S.1 S.2.1 S.2.2.2.1 (sxvX8_138 hX) dX8_factor_155 ?_
                  refine R_cVi (As := [.ref (eK E 6)]) (rest := []) S (c_X8_takeWord (h12 := h12) (hw := (by decide)) hf) gX8_factor_X8_takeWord rfl yk_X8_takeWord ⟨⟨by dsimp only [rmX8_takeWord, rmX8_factor]; omega, by dsimp only [rmX8_takeWord, rmX8_factor]; omega⟩, rfl, rfl⟩ hK hP hD hS hX hA (h12 0 (by decide)) (cF_m E _ _ 0) rfl rfl hl.1 rfl (Nat.le_of_ble_eq_true rfl) ⟨Nat.zero_le _, Nat.zero_le _⟩ dX8_factor_157 (fun v_35 I_33 J_34 H locs hf hP hD hS => ?_)
                  refine lv_if_eq (tgt := 167) S.1 S.2.1 dX8_factor_160 (by decide) (fun h_36 => ?_) (fun h_36 => ?_)
                  · have hf := hf.1 h_36
                    refine lv_iconst (v := (-1)) S.1 S.2.1 dX8_factor_167 rfl ?_
                    exact jn168 _ _ _ hf _ _ _ hP hD hS (lv_sub hl [1] rfl)
                  · have hf := hf.2 h_36
                    refine lv_iconst (v := 5) S.1 S.2.1 dX8_factor_163 rfl ?_
                    refine lv_goto (tgt := 168) S.1 S.2.1 dX8_factor_164 (by decide) ?_
                    exact jn168 _ _ _ hf _ _ _ hP hD hS (lv_sub hl [1] rfl)
                · have hf := hf.2 h_32
                  refine lv_iconst (v := 4) S.1 S.2.1 dX8_factor_150 rfl ?_
                  refine lv_goto (tgt := 168) S.1 S.2.1 dX8_factor_151 (by decide) ?_
                  exact jn168 _ _ _ hf _ _ _ hP hD hS (lv_sub hl [1] rfl)
              · have hf := hf.2 h_28
                refine lv_iconst (v := 3) S.1 S.2.1 dX8_factor_137 rfl ?_
                refine lv_goto (tgt := 168) S.1 S.2.1 dX8_factor_138 (by decide) ?_
                exact jn168 _ _ _ hf _ _ _ hP hD hS (lv_sub hl [1] rfl)
            · have hf := hf.2 h_24
              refine lv_iconst (v := 2) S.1 S.2.1 dX8_factor_124 rfl ?_
              refine lv_goto (tgt := 168) S.1 S.2.1 dX8_factor_125 (by decide) ?_
              exact jn168 _ _ _ hf _ _ _ hP hD hS (lv_sub hl [1] rfl)
          · have hf := hf.2 h_20
            refine lv_iconst (v := 1) S.1 S.2.1 dX8_factor_111 rfl ?_
            refine lv_goto (tgt := 168) S.1 S.2.1 dX8_factor_112 (by decide) ?_
            exact jn168 _ _ _ hf _ _ _ hP hD hS (lv_sub hl [1] rfl)
        · have hf := hf.2 h_16
          refine lv_iconst (v := 0) S.1 S.2.1 dX8_factor_98 rfl ?_
          refine lv_goto (tgt := 168) S.1 S.2.1 dX8_factor_99 (by decide) ?_
          exact jn168 _ _ _ hf _ _ _ hP hD hS (lv_sub hl [1] rfl)
      · have hf := hf.2 h_12
        refine lv_iconst (v := (-1)) S.1 S.2.1 dX8_factor_85 rfl ?_
        refine lv_goto (tgt := 168) S.1 S.2.1 dX8_factor_86 (by decide) ?_
        exact jn168 _ _ _ hf _ _ _ hP hD hS (lv_sub hl [1] rfl)
    · have hf := hf.1 h_8
      refine lv_aload_n S.1 S.2.1 dX8_factor_19 rfl (lv_at hl 1 rfl) ?_
      refine gfX8_14 S iX8 hK hP (h12 0 (by decide)) k1 dX8_factor_20 ?_
      refine lv_iconst (v := 4) S.1 S.2.1 dX8_factor_23 rfl ?_
      refine lv_icmp_ne (tgt := 37) S.1 S.2.1 dX8_factor_24 (by decide) (fun h_57 => ?_) (fun h_57 => ?_)
      · have hf := hf.2 h_57
        exact jn37 _ _ hf _ _ _ hP hD hS (lv_sub hl [1] rfl)
      · have hf := hf.1 h_57
        refine lv_aload_n S.1 S.2.1 dX8_factor_27 rfl (lv_at hl 1 rfl) ?_
        refine lv_bipush (v := (-6)) S.1 S.2.1 dX8_factor_28 rfl ?_
        refine lv_aload_n S.1 S.2.1 dX8_factor_30 rfl (lv_at hl 1 rfl) ?_
        refine gfX8_4 S iX8 hK hP (h12 0 (by decide)) k2 dX8_factor_31 ?_
        refine R_cVv (As := [.int (-6 : Int32), .int (I_5 12 0 4)]) (rest := []) S (c_X8_report (h12 := h12)  hf) gX8_factor_X8_report rfl yk_X8_report ⟨⟨by dsimp only [rmX8_report, rmX8_factor]; omega, by dsimp only [rmX8_report, rmX8_factor]; omega⟩, rfl, rfl⟩ hK hP hD hS hX hA (h12 0 (by decide)) (cF_m E _ _ 0) rfl rfl hl.1 rfl (Nat.le_of_ble_eq_true rfl) ⟨Nat.zero_le _, Nat.zero_le _⟩ dX8_factor_34 (fun I_67 J_68 H locs hf hP hD hS => ?_)
        exact jn37 _ _ hf _ _ _ hP hD hS (lv_sub hl [1] rfl)
  · have hf := hf.1 h_4
    exact hret hf hP hD hS dX8_factor_7
