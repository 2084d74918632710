abbrev rmX8_rhymeWith : Room := { frames := 3, cells := 0, slots := 0, locals := 63 }
theorem yk_X8_rhymeWith : yOk yX8_rhymeWith RX8 3 := by unfold yOk; decide +kernel
def f_X8_rhymeWith (x1 : Int32) (x2 : Int32) (x3 : Int32) (I : MI) (J : MJ) (Q : Int32 → MI → MJ → Prop) : Prop :=
  f_X8_wordAt x1 x2 I J (fun (v_3 : Int32) (I_1 : MI) (J_2 : MJ) => f_X8_lengthOf x1 x2 I_1 J_2 (fun (v_6 : Int32) (I_4 : MI) (J_5 : MJ) => f_X8_lastAt x3 I_4 J_5 (fun (v_9 : Int32) (I_7 : MI) (J_8 : MJ) => f_X8_ofRow x3 (4 : Int32) I_7 J_8 (fun (v_12 : Int32) (I_10 : MI) (J_11 : MJ) => f_X8_rhymeOf (v_3 + (1 : Int32)) v_6 v_9 v_12 I_10 J_11 (fun (v_15 : Int32) (I_13 : MI) (J_14 : MJ) => Q v_15 I_13 J_14)))))
set_option maxRecDepth 100000 in
set_option maxHeartbeats 4000000 in
theorem c_X8_rhymeWith {l : Launch} {E : EV} {ps : List (Nat × Nat)} (h12 : ∀ r, r < 17 → (12, r) ∈ ps) {x1 : Int32} {x2 : Int32} {x3 : Int32} {I : MI} {J : MJ} {Q : Int32 → MI → MJ → Prop} (hf : f_X8_rhymeWith x1 x2 x3 I J Q) : KI l yX8_rhymeWith wsX8_rhymeWith rmX8_rhymeWith E ps [.ref (eA E 12 0), .int x1, .int x2, .int x3] I J Q := by
  refine K_ofI (cc := cX8_rhymeWith) (maxL := 4) (ty := .int) (by decide +kernel) rfl (Nat.le_of_ble_eq_true rfl) (fun p e s m args below meth c Qm hret S hK hX => ?_)
  have hA : ∀ q, s.heap.size ≤ q → AA E ps s.heap.size q := fun _ h => Or.inr h
  intro H locs ls hP hD hS hl
  unfold f_X8_rhymeWith at hf
  refine lv_aload_n S.1 S.2.1 dX8_rhymeWith_0 rfl (lv_at hl 0 rfl) ?_
  refine lv_iload_n S.1 S.2.1 dX8_rhymeWith_1 rfl (lv_at hl 1 rfl) ?_
  refine lv_iload_n S.1 S.2.1 dX8_rhymeWith_2 rfl (lv_at hl 2 rfl) ?_
  refine R_cSi (As := [.int x1, .int x2]) (rest := [.ref (eA E 12 0)]) S (c_X8_wordAt   hf) gX8_rhymeWith_X8_wordAt rfl yk_X8_wordAt ⟨⟨Nat.le_of_ble_eq_true rfl, Nat.le_of_ble_eq_true rfl⟩, rfl, rfl⟩ hK hP hD hS hX hA rfl hl.1 rfl (Nat.le_of_ble_eq_true rfl) ⟨Nat.zero_le _, Nat.zero_le _⟩ dX8_rhymeWith_3 (fun v_3 I_1 J_2 H locs hf hP hD hS => ?_)
  refine lv_iconst (v := 1) S.1 S.2.1 dX8_rhymeWith_6 rfl ?_
  refine lv_iadd S.1 S.2.1 dX8_rhymeWith_7 ?_
  refine lv_aload_n S.1 S.2.1 dX8_rhymeWith_8 rfl (lv_at hl 0 rfl) ?_
  refine lv_iload_n S.1 S.2.1 dX8_rhymeWith_9 rfl (lv_at hl 1 rfl) ?_
  refine lv_iload_n S.1 S.2.1 dX8_rhymeWith_10 rfl (lv_at hl 2 rfl) ?_
  refine R_cVi (As := [.int x1, .int x2]) (rest := [.int (v_3 + (1 : Int32)), .ref (eA E 12 0)]) S (c_X8_lengthOf (h12 := h12)  hf) gX8_rhymeWith_X8_lengthOf rfl yk_X8_lengthOf ⟨⟨Nat.le_of_ble_eq_true rfl, Nat.le_of_ble_eq_true rfl⟩, rfl, rfl⟩ hK hP hD hS hX hA (h12 0 (by decide)) (cF_m E _ _ 0) rfl rfl hl.1 rfl (Nat.le_of_ble_eq_true rfl) ⟨Nat.zero_le _, Nat.zero_le _⟩ dX8_rhymeWith_11 (fun v_6 I_4 J_5 H locs hf hP hD hS => ?_)
  refine lv_aload_n S.1 S.2.1 dX8_rhymeWith_14 rfl (lv_at hl 0 rfl) ?_
  refine lv_iload_n S.1 S.2.1 dX8_rhymeWith_15 rfl (lv_at hl 3 rfl) ?_
  refine R_cVi (As := [.int x3]) (rest := [.int v_6, .int (v_3 + (1 : Int32)), .ref (eA E 12 0)]) S (c_X8_lastAt (h12 := h12)  hf) gX8_rhymeWith_X8_lastAt rfl yk_X8_lastAt ⟨⟨Nat.le_of_ble_eq_true rfl, Nat.le_of_ble_eq_true rfl⟩, rfl, rfl⟩ hK hP hD hS hX hA (h12 0 (by decide)) (cF_m E _ _ 0) rfl rfl hl.1 rfl (Nat.le_of_ble_eq_true rfl) ⟨Nat.zero_le _, Nat.zero_le _⟩ dX8_rhymeWith_16 (fun v_9 I_7 J_8 H locs hf hP hD hS => ?_)
  refine lv_aload_n S.1 S.2.1 dX8_rhymeWith_19 rfl (lv_at hl 0 rfl) ?_
  refine lv_iload_n S.1 S.2.1 dX8_rhymeWith_20 rfl (lv_at hl 3 rfl) ?_
  refine lv_iconst (v := 4) S.1 S.2.1 dX8_rhymeWith_21 rfl ?_
  refine R_cVi (As := [.int x3, .int (4 : Int32)]) (rest := [.int v_9, .int v_6, .int (v_3 + (1 : Int32)), .ref (eA E 12 0)]) S (c_X8_ofRow (h12 := h12)  hf) gX8_rhymeWith_X8_ofRow rfl yk_X8_ofRow ⟨⟨Nat.le_of_ble_eq_true rfl, Nat.le_of_ble_eq_true rfl⟩, rfl, rfl⟩ hK hP hD hS hX hA (h12 0 (by decide)) (cF_m E _ _ 0) rfl rfl hl.1 rfl (Nat.le_of_ble_eq_true rfl) ⟨Nat.zero_le _, Nat.zero_le _⟩ dX8_rhymeWith_22 (fun v_12 I_10 J_11 H locs hf hP hD hS => ?_)
  refine R_cVi (As := [.int (v_3 + (1 : Int32)), .int v_6, .int v_9, .int v_12]) (rest := []) S (c_X8_rhymeOf (h12 := h12)  hf) gX8_rhymeWith_X8_rhymeOf rfl yk_X8_rhymeOf ⟨⟨Nat.le_of_ble_eq_true rfl, Nat.le_of_ble_eq_true rfl⟩, rfl, rfl⟩ hK hP hD hS hX hA (h12 0 (by decide)) (cF_m E _ _ 0) rfl rfl hl.1 rfl (Nat.le_of_ble_eq_true rfl) ⟨Nat.zero_le _, Nat.zero_le _⟩ dX8_rhymeWith_25 (fun v_15 I_13 J_14 H locs hf hP hD hS => ?_)
  exact hret hf rfl hP hD hS dX8_rhymeWith_28
abbrev rmX8_isSameAs : Room := { frames := 3, cells := 0, slots := 0, locals := 63 }
theorem yk_X8_isSameAs : yOk yX8_isSameAs RX8 3 := by unfold yOk; decide +kernel
def f_X8_isSameAs (x1 : Int32) (x2 : Int32) (x3 : Int32) (I : MI) (J : MJ) (Q : Int32 → MI → MJ → Prop) : Prop :=
  f_X8_wordAt x1 x2 I J (fun (v_3 : Int32) (I_1 : MI) (J_2 : MJ) => f_X8_lengthOf x1 x2 I_1 J_2 (fun (v_6 : Int32) (I_4 : MI) (J_5 : MJ) => f_X8_lastAt x3 I_4 J_5 (fun (v_9 : Int32) (I_7 : MI) (J_8 : MJ) => f_X8_ofRow x3 (4 : Int32) I_7 J_8 (fun (v_12 : Int32) (I_10 : MI) (J_11 : MJ) => f_X8_areSame (v_3 + (1 : Int32)) v_6 v_9 v_12 I_10 J_11 (fun (v_15 : Int32) (I_13 : MI) (J_14 : MJ) => (bo v_15 ∧ Q v_15 I_13 J_14))))))
set_option maxRecDepth 100000 in
set_option maxHeartbeats 4000000 in
theorem c_X8_isSameAs {l : Launch} {E : EV} {ps : List (Nat × Nat)} (h12 : ∀ r, r < 17 → (12, r) ∈ ps) {x1 : Int32} {x2 : Int32} {x3 : Int32} {I : MI} {J : MJ} {Q : Int32 → MI → MJ → Prop} (hf : f_X8_isSameAs x1 x2 x3 I J Q) : KI l yX8_isSameAs wsX8_isSameAs rmX8_isSameAs E ps [.ref (eA E 12 0), .int x1, .int x2, .int x3] I J Q := by
  refine K_ofI (cc := cX8_isSameAs) (maxL := 4) (ty := .boolean) (by decide +kernel) rfl (Nat.le_of_ble_eq_true rfl) (fun p e s m args below meth c Qm hret S hK hX => ?_)
  have hA : ∀ q, s.heap.size ≤ q → AA E ps s.heap.size q := fun _ h => Or.inr h
  intro H locs ls hP hD hS hl
  unfold f_X8_isSameAs at hf
  refine lv_aload_n S.1 S.2.1 dX8_isSameAs_0 rfl (lv_at hl 0 rfl) ?_
  refine lv_iload_n S.1 S.2.1 dX8_isSameAs_1 rfl (lv_at hl 1 rfl) ?_
  refine lv_iload_n S.1 S.2.1 dX8_isSameAs_2 rfl (lv_at hl 2 rfl) ?_
  refine R_cSi (As := [.int x1, .int x2]) (rest := [.ref (eA E 12 0)]) S (c_X8_wordAt   hf) gX8_isSameAs_X8_wordAt rfl yk_X8_wordAt ⟨⟨Nat.le_of_ble_eq_true rfl, Nat.le_of_ble_eq_true rfl⟩, rfl, rfl⟩ hK hP hD hS hX hA rfl hl.1 rfl (Nat.le_of_ble_eq_true rfl) ⟨Nat.zero_le _, Nat.zero_le _⟩ dX8_isSameAs_3 (fun v_3 I_1 J_2 H locs hf hP hD hS => ?_)
  refine lv_iconst (v := 1) S.1 S.2.1 dX8_isSameAs_6 rfl ?_
  refine lv_iadd S.1 S.2.1 dX8_isSameAs_7 ?_
  refine lv_aload_n S.1 S.2.1 dX8_isSameAs_8 rfl (lv_at hl 0 rfl) ?_
  refine lv_iload_n S.1 S.2.1 dX8_isSameAs_9 rfl (lv_at hl 1 rfl) ?_
  refine lv_iload_n S.1 S.2.1 dX8_isSameAs_10 rfl (lv_at hl 2 rfl) ?_
  refine R_cVi (As := [.int x1, .int x2]) (rest := [.int (v_3 + (1 : Int32)), .ref (eA E 12 0)]) S (c_X8_lengthOf (h12 := h12)  hf) gX8_isSameAs_X8_lengthOf rfl yk_X8_lengthOf ⟨⟨Nat.le_of_ble_eq_true rfl, Nat.le_of_ble_eq_true rfl⟩, rfl, rfl⟩ hK hP hD hS hX hA (h12 0 (by decide)) (cF_m E _ _ 0) rfl rfl hl.1 rfl (Nat.le_of_ble_eq_true rfl) ⟨Nat.zero_le _, Nat.zero_le _⟩ dX8_isSameAs_11 (fun v_6 I_4 J_5 H locs hf hP hD hS => ?_)
  refine lv_aload_n S.1 S.2.1 dX8_isSameAs_14 rfl (lv_at hl 0 rfl) ?_
  refine lv_iload_n S.1 S.2.1 dX8_isSameAs_15 rfl (lv_at hl 3 rfl) ?_
  refine R_cVi (As := [.int x3]) (rest := [.int v_6, .int (v_3 + (1 : Int32)), .ref (eA E 12 0)]) S (c_X8_lastAt (h12 := h12)  hf) gX8_isSameAs_X8_lastAt rfl yk_X8_lastAt ⟨⟨Nat.le_of_ble_eq_true rfl, Nat.le_of_ble_eq_true rfl⟩, rfl, rfl⟩ hK hP hD hS hX hA (h12 0 (by decide)) (cF_m E _ _ 0) rfl rfl hl.1 rfl (Nat.le_of_ble_eq_true rfl) ⟨Nat.zero_le _, Nat.zero_le _⟩ dX8_isSameAs_16 (fun v_9 I_7 J_8 H locs hf hP hD hS => ?_)
  refine lv_aload_n S.1 S.2.1 dX8_isSameAs_19 rfl (lv_at hl 0 rfl) ?_
  refine lv_iload_n S.1 S.2.1 dX8_isSameAs_20 rfl (lv_at hl 3 rfl) ?_
  refine lv_iconst (v := 4) S.1 S.2.1 dX8_isSameAs_21 rfl ?_
  refine R_cVi (As := [.int x3, .int (4 : Int32)]) (rest := [.int v_9, .int v_6, .int (v_3 + (1 : Int32)), .ref (eA E 12 0)]) S (c_X8_ofRow (h12 := h12)  hf) gX8_isSameAs_X8_ofRow rfl yk_X8_ofRow ⟨⟨Nat.le_of_ble_eq_true rfl, Nat.le_of_ble_eq_true rfl⟩, rfl, rfl⟩ hK hP hD hS hX hA (h12 0 (by decide)) (cF_m E _ _ 0) rfl rfl hl.1 rfl (Nat.le_of_ble_eq_true rfl) ⟨Nat.zero_le _, Nat.zero_le _⟩ dX8_isSameAs_22 (fun v_12 I_10 J_11 H locs hf hP hD hS => ?_)
  refine R_cVi (As := [.int (v_3 + (1 : Int32)), .int v_6, .int v_9, .int v_12]) (rest := []) S (c_X8_areSame (h12 := h12)  hf) gX8_isSameAs_X8_areSame rfl yk_X8_areSame ⟨⟨Nat.le_of_ble_eq_true rfl, Nat.le_of_ble_eq_true rfl⟩, rfl, rfl⟩ hK hP hD hS hX hA (h12 0 (by decide)) (cF_m E _ _ 0) rfl rfl hl.1 rfl (Nat.le_of_ble_eq_true rfl) ⟨Nat.zero_le _, Nat.zero_le _⟩ dX8_isSameAs_25 (fun v_15 I_13 J_14 H locs hf hP hD hS => ?_)
  obtain ⟨h_16, hf⟩ := hf
  exact hret hf h_16.1 hP hD hS dX8_isSameAs_28
abbrev rmX8_hinders : Room := { frames := 4, cells := 0, slots := 0, locals := 86 }
theorem yk_X8_hinders : yOk yX8_hinders RX8 3 := by unfold yOk; decide +kernel
def f_X8_hinders (x1 : Int32) (x2 : Int32) (x3 : Int32) (I : MI) (J : MJ) (Q : Int32 → MI → MJ → Prop) : Prop :=
  f_X8_lengthOf x1 x2 I J (fun (v_3 : Int32) (I_1 : MI) (J_2 : MJ) => f_X8_free x3 I_1 J_2 (fun (v_6 : Int32) (I_4 : MI) (J_5 : MJ) => ((v_3 ≤ v_6 → f_X8_ofRow x3 (2 : Int32) I_4 J_5 (fun (v_10 : Int32) (I_8 : MI) (J_9 : MJ) => ((v_10 = (0 : Int32) → Q (0 : Int32) I_8 J_9) ∧ (¬ v_10 = (0 : Int32) → f_X8_isSameAs x1 x2 x3 I_8 J_9 (fun (v_14 : Int32) (I_12 : MI) (J_13 : MJ) => ((v_14 = (0 : Int32) → f_X8_rhymeWith x1 x2 x3 I_12 J_13 (fun (v_18 : Int32) (I_16 : MI) (J_17 : MJ) => (vp_in (2 : Int32) 1802 ∧ (((I_16 12 2 (2 : Int32).toNatClampNeg) ≤ v_18 → Q (0 : Int32) I_16 J_17) ∧ (¬ (I_16 12 2 (2 : Int32).toNatClampNeg) ≤ v_18 → Q (4 : Int32) I_16 J_17))))) ∧ (¬ v_14 = (0 : Int32) → Q (3 : Int32) I_12 J_13))))))) ∧ (¬ v_3 ≤ v_6 → Q (2 : Int32) I_4 J_5))))
set_option maxRecDepth 100000 in
set_option maxHeartbeats 4000000 in
theorem c_X8_hinders {l : Launch} {E : EV} {ps : List (Nat × Nat)} (h12 : ∀ r, r < 17 → (12, r) ∈ ps) {x1 : Int32} {x2 : Int32} {x3 : Int32} {I : MI} {J : MJ} {Q : Int32 → MI → MJ → Prop} (hf : f_X8_hinders x1 x2 x3 I J Q) : KI l yX8_hinders wsX8_hinders rmX8_hinders E ps [.ref (eA E 12 0), .int x1, .int x2, .int x3] I J Q := by
  refine K_ofI (cc := cX8_hinders) (maxL := 4) (ty := .int) (by decide +kernel) rfl (Nat.le_of_ble_eq_true rfl) (fun p e s m args below meth c Qm hret S hK hX => ?_)
  have hA : ∀ q, s.heap.size ≤ q → AA E ps s.heap.size q := fun _ h => Or.inr h
  have k1 := S.2.2.2.2 (.fieldLink RX8 17 "RhymeRoofsModel" "data" "[I") (by decide +kernel)
  have iX8 : ∀ w ∈ wsX80, w ∈ wsX8_hinders := fun _ h => List.mem_cons_of_mem _ (List.mem_append_right _ h)
  intro H locs ls hP hD hS hl
  unfold f_X8_hinders at hf
  refine lv_aload_n S.1 S.2.1 dX8_hinders_0 rfl (lv_at hl 0 rfl) ?_
  refine lv_iload_n S.1 S.2.1 dX8_hinders_1 rfl (lv_at hl 1 rfl) ?_
  refine lv_iload_n S.1 S.2.1 dX8_hinders_2 rfl (lv_at hl 2 rfl) ?_
  refine R_cVi (As := [.int x1, .int x2]) (rest := []) S (c_X8_lengthOf (h12 := h12)  hf) gX8_hinders_X8_lengthOf rfl yk_X8_lengthOf ⟨⟨Nat.le_of_ble_eq_true rfl, Nat.le_of_ble_eq_true rfl⟩, rfl, rfl⟩ hK hP hD hS hX hA (h12 0 (by decide)) (cF_m E _ _ 0) rfl rfl hl.1 rfl (Nat.le_of_ble_eq_true rfl) ⟨Nat.zero_le _, Nat.zero_le _⟩ dX8_hinders_3 (fun v_3 I_1 J_2 H locs hf hP hD hS => ?_)
  refine lv_aload_n S.1 S.2.1 dX8_hinders_6 rfl (lv_at hl 0 rfl) ?_
  refine lv_iload_n S.1 S.2.1 dX8_hinders_7 rfl (lv_at hl 3 rfl) ?_
  refine R_cVi (As := [.int x3]) (rest := [.int v_3]) S (c_X8_free (h12 := h12)  hf) gX8_hinders_X8_free rfl yk_X8_free ⟨⟨Nat.le_of_ble_eq_true rfl, Nat.le_of_ble_eq_true rfl⟩, rfl, rfl⟩ hK hP hD hS hX hA (h12 0 (by decide)) (cF_m E _ _ 0) rfl rfl hl.1 rfl (Nat.le_of_ble_eq_true rfl) ⟨Nat.zero_le _, Nat.zero_le _⟩ dX8_hinders_8 (fun v_6 I_4 J_5 H locs hf hP hD hS => ?_)
  refine lv_icmp_le (tgt := 16) S.1 S.2.1 dX8_hinders_11 (by decide) (fun h_7 => ?_) (fun h_7 => ?_)
  · have hf := hf.1 h_7
    refine lv_aload_n S.1 S.2.1 dX8_hinders_16 rfl (lv_at hl 0 rfl) ?_
    refine lv_iload_n S.1 S.2.1 dX8_hinders_17 rfl (lv_at hl 3 rfl) ?_
    refine lv_iconst (v := 2) S.1 S.2.1 dX8_hinders_18 rfl ?_
    refine R_cVi (As := [.int x3, .int (2 : Int32)]) (rest := []) S (c_X8_ofRow (h12 := h12)  hf) gX8_hinders_X8_ofRow rfl yk_X8_ofRow ⟨⟨Nat.le_of_ble_eq_true rfl, Nat.le_of_ble_eq_true rfl⟩, rfl, rfl⟩ hK hP hD hS hX hA (h12 0 (by decide)) (cF_m E _ _ 0) rfl rfl hl.1 rfl (Nat.le_of_ble_eq_true rfl) ⟨Nat.zero_le _, Nat.zero_le _⟩ dX8_hinders_19 (fun v_10 I_8 J_9 H locs hf hP hD hS => ?_)
    refine lv_if_ne (tgt := 27) S.1 S.2.1 dX8_hinders_22 (by decide) (fun h_11 => ?_) (fun h_11 => ?_)
    · have hf := hf.2 h_11
      refine lv_aload_n S.1 S.2.1 dX8_hinders_27 rfl (lv_at hl 0 rfl) ?_
      refine lv_iload_n S.1 S.2.1 dX8_hinders_28 rfl (lv_at hl 1 rfl) ?_
      refine lv_iload_n S.1 S.2.1 dX8_hinders_29 rfl (lv_at hl 2 rfl) ?_
      refine lv_iload_n S.1 S.2.1 dX8_hinders_30 rfl (lv_at hl 3 rfl) ?_
      refine R_cVi (As := [.int x1, .int x2, .int x3]) (rest := []) S (c_X8_isSameAs (h12 := h12)  hf) gX8_hinders_X8_isSameAs rfl yk_X8_isSameAs ⟨⟨Nat.le_of_ble_eq_true rfl, Nat.le_of_ble_eq_true rfl⟩, rfl, rfl⟩ hK hP hD hS hX hA (h12 0 (by decide)) (cF_m E _ _ 0) rfl rfl hl.1 rfl (Nat.le_of_ble_eq_true rfl) ⟨Nat.zero_le _, Nat.zero_le _⟩ dX8_hinders_31 (fun v_14 I_12 J_13 H locs hf hP hD hS => ?_)
      refine lv_if_eq (tgt := 39) S.1 S.2.1 dX8_hinders_34 (by decide) (fun h_15 => ?_) (fun h_15 => ?_)
      · have hf := hf.1 h_15
        refine lv_aload_n S.1 S.2.1 dX8_hinders_39 rfl (lv_at hl 0 rfl) ?_
        refine lv_iload_n S.1 S.2.1 dX8_hinders_40 rfl (lv_at hl 1 rfl) ?_
        refine lv_iload_n S.1 S.2.1 dX8_hinders_41 rfl (lv_at hl 2 rfl) ?_
        refine lv_iload_n S.1 S.2.1 dX8_hinders_42 rfl (lv_at hl 3 rfl) ?_
        refine R_cVi (As := [.int x1, .int x2, .int x3]) (rest := []) S (c_X8_rhymeWith (h12 := h12)  hf) gX8_hinders_X8_rhymeWith rfl yk_X8_rhymeWith ⟨⟨Nat.le_of_ble_eq_true rfl, Nat.le_of_ble_eq_true rfl⟩, rfl, rfl⟩ hK hP hD hS hX hA (h12 0 (by decide)) (cF_m E _ _ 0) rfl rfl hl.1 rfl (Nat.le_of_ble_eq_true rfl) ⟨Nat.zero_le _, Nat.zero_le _⟩ dX8_hinders_43 (fun v_18 I_16 J_17 H locs hf hP hD hS => ?_)
        refine lv_aload_n S.1 S.2.1 dX8_hinders_46 rfl (lv_at hl 0 rfl) ?_
        refine gfX8_8 S iX8 hK hP (h12 0 (by decide)) k1 dX8_hinders_47 ?_
        refine lv_iconst (v := 2) S.1 S.2.1 dX8_hinders_50 rfl ?_
        obtain ⟨h_19, hf⟩ := hf
        refine R_iald S.1 S.2.1 hK hP (h12 2 (by decide)) (IAm2 E) h_19 dX8_hinders_51 ?_
        refine lv_icmp_ge (tgt := 59) S.1 S.2.1 dX8_hinders_52 (by decide) (fun h_20 => ?_) (fun h_20 => ?_)
        · have hf := hf.1 h_20
          refine lv_iconst (v := 0) S.1 S.2.1 dX8_hinders_59 rfl ?_
          exact hret hf rfl hP hD hS dX8_hinders_60
        · have hf := hf.2 h_20
          refine lv_iconst (v := 4) S.1 S.2.1 dX8_hinders_55 rfl ?_
          refine lv_goto (tgt := 60) S.1 S.2.1 dX8_hinders_56 (by decide) ?_
          exact hret hf rfl hP hD hS dX8_hinders_60
      · have hf := hf.2 h_15
        refine lv_iconst (v := 3) S.1 S.2.1 dX8_hinders_37 rfl ?_
        exact hret hf rfl hP hD hS dX8_hinders_38
    · have hf := hf.1 h_11
      refine lv_iconst (v := 0) S.1 S.2.1 dX8_hinders_25 rfl ?_
      exact hret hf rfl hP hD hS dX8_hinders_26
  · have hf := hf.2 h_7
    refine lv_iconst (v := 2) S.1 S.2.1 dX8_hinders_14 rfl ?_
    exact hret hf rfl hP hD hS dX8_hinders_15
abbrev rmX8_refusal : Room := { frames := 5, cells := 0, slots := 0, locals := 109 }
theorem yk_X8_refusal : yOk yX8_refusal RX8 2 := by unfold yOk; decide +kernel
def f_X8_refusal (x1 : Int32) (x2 : Int32) (I : MI) (J : MJ) (Q : Int32 → MI → MJ → Prop) : Prop :=
  (vp_in (6 : Int32) 1802 ∧ (((I 12 2 (6 : Int32).toNatClampNeg) = (1 : Int32) → Q (1 : Int32) I J) ∧ (¬ (I 12 2 (6 : Int32).toNatClampNeg) = (1 : Int32) → (vp_in (5 : Int32) 1802 ∧ f_X8_hinders (I 12 2 (5 : Int32).toNatClampNeg) x1 x2 I J (fun (v_6 : Int32) (I_4 : MI) (J_5 : MJ) => Q v_6 I_4 J_5)))))
set_option maxRecDepth 100000 in
set_option maxHeartbeats 4000000 in
theorem c_X8_refusal {l : Launch} {E : EV} {ps : List (Nat × Nat)} (h12 : ∀ r, r < 17 → (12, r) ∈ ps) {x1 : Int32} {x2 : Int32} {I : MI} {J : MJ} {Q : Int32 → MI → MJ → Prop} (hf : f_X8_refusal x1 x2 I J Q) : KI l yX8_refusal wsX8_refusal rmX8_refusal E ps [.ref (eA E 12 0), .int x1, .int x2] I J Q := by
  refine K_ofI (cc := cX8_refusal) (maxL := 3) (ty := .int) (by decide +kernel) rfl (Nat.le_of_ble_eq_true rfl) (fun p e s m args below meth c Qm hret S hK hX => ?_)
  have hA : ∀ q, s.heap.size ≤ q → AA E ps s.heap.size q := fun _ h => Or.inr h
  have k1 := S.2.2.2.2 (.fieldLink RX8 17 "RhymeRoofsModel" "data" "[I") (by decide +kernel)
  have iX8 : ∀ w ∈ wsX80, w ∈ wsX8_refusal := fun _ h => List.mem_cons_of_mem _ (List.mem_append_right _ h)
  intro H locs ls hP hD hS hl
  unfold f_X8_refusal at hf
  refine lv_aload_n S.1 S.2.1 dX8_refusal_0 rfl (lv_at hl 0 rfl) ?_
  refine gfX8_8 S iX8 hK hP (h12 0 (by decide)) k1 dX8_refusal_1 ?_
  refine lv_bipush (v := 6) S.1 S.2.1 dX8_refusal_4 rfl ?_
  obtain ⟨h_1, hf⟩ := hf
  refine R_iald S.1 S.2.1 hK hP (h12 2 (by decide)) (IAm2 E) h_1 dX8_refusal_6 ?_
  refine lv_iconst (v := 1) S.1 S.2.1 dX8_refusal_7 rfl ?_
  refine lv_icmp_ne (tgt := 15) S.1 S.2.1 dX8_refusal_8 (by decide) (fun h_2 => ?_) (fun h_2 => ?_)
  · have hf := hf.2 h_2
    refine lv_aload_n S.1 S.2.1 dX8_refusal_15 rfl (lv_at hl 0 rfl) ?_
    refine lv_aload_n S.1 S.2.1 dX8_refusal_16 rfl (lv_at hl 0 rfl) ?_
    refine gfX8_8 S iX8 hK hP (h12 0 (by decide)) k1 dX8_refusal_17 ?_
    refine lv_iconst (v := 5) S.1 S.2.1 dX8_refusal_20 rfl ?_
    obtain ⟨h_3, hf⟩ := hf
    refine R_iald S.1 S.2.1 hK hP (h12 2 (by decide)) (IAm2 E) h_3 dX8_refusal_21 ?_
    refine lv_iload_n S.1 S.2.1 dX8_refusal_22 rfl (lv_at hl 1 rfl) ?_
    refine lv_iload_n S.1 S.2.1 dX8_refusal_23 rfl (lv_at hl 2 rfl) ?_
    refine R_cVi (As := [.int (I 12 2 (5 : Int32).toNatClampNeg), .int x1, .int x2]) (rest := []) S (c_X8_hinders (h12 := h12)  hf) gX8_refusal_X8_hinders rfl yk_X8_hinders ⟨⟨Nat.le_of_ble_eq_true rfl, Nat.le_of_ble_eq_true rfl⟩, rfl, rfl⟩ hK hP hD hS hX hA (h12 0 (by decide)) (cF_m E _ _ 0) rfl rfl hl.1 rfl (Nat.le_of_ble_eq_true rfl) ⟨Nat.zero_le _, Nat.zero_le _⟩ dX8_refusal_24 (fun v_6 I_4 J_5 H locs hf hP hD hS => ?_)
    exact hret hf rfl hP hD hS dX8_refusal_27
  · have hf := hf.1 h_2
    refine lv_iconst (v := 1) S.1 S.2.1 dX8_refusal_11 rfl ?_
    refine lv_goto (tgt := 27) S.1 S.2.1 dX8_refusal_12 (by decide) ?_
    exact hret hf rfl hP hD hS dX8_refusal_27
abbrev rmX8_rhymeThere : Room := { frames := 4, cells := 0, slots := 0, locals := 86 }
theorem yk_X8_rhymeThere : yOk yX8_rhymeThere RX8 3 := by unfold yOk; decide +kernel
def f_X8_rhymeThere (x1 : Int32) (x2 : Int32) (x3 : Int32) (I : MI) (J : MJ) (Q : Int32 → MI → MJ → Prop) : Prop :=
  f_X8_ofRow x3 (2 : Int32) I J (fun (v_3 : Int32) (I_1 : MI) (J_2 : MJ) => ((v_3 = (0 : Int32) → Q (0 : Int32) I_1 J_2) ∧ (¬ v_3 = (0 : Int32) → f_X8_rhymeWith x1 x2 x3 I_1 J_2 (fun (v_7 : Int32) (I_5 : MI) (J_6 : MJ) => Q v_7 I_5 J_6))))
set_option maxRecDepth 100000 in
set_option maxHeartbeats 4000000 in
theorem c_X8_rhymeThere {l : Launch} {E : EV} {ps : List (Nat × Nat)} (h12 : ∀ r, r < 17 → (12, r) ∈ ps) {x1 : Int32} {x2 : Int32} {x3 : Int32} {I : MI} {J : MJ} {Q : Int32 → MI → MJ → Prop} (hf : f_X8_rhymeThere x1 x2 x3 I J Q) : KI l yX8_rhymeThere wsX8_rhymeThere rmX8_rhymeThere E ps [.ref (eA E 12 0), .int x1, .int x2, .int x3] I J Q := by
  refine K_ofI (cc := cX8_rhymeThere) (maxL := 4) (ty := .int) (by decide +kernel) rfl (Nat.le_of_ble_eq_true rfl) (fun p e s m args below meth c Qm hret S hK hX => ?_)
  have hA : ∀ q, s.heap.size ≤ q → AA E ps s.heap.size q := fun _ h => Or.inr h
  intro H locs ls hP hD hS hl
  unfold f_X8_rhymeThere at hf
  refine lv_aload_n S.1 S.2.1 dX8_rhymeThere_0 rfl (lv_at hl 0 rfl) ?_
  refine lv_iload_n S.1 S.2.1 dX8_rhymeThere_1 rfl (lv_at hl 3 rfl) ?_
  refine lv_iconst (v := 2) S.1 S.2.1 dX8_rhymeThere_2 rfl ?_
  refine R_cVi (As := [.int x3, .int (2 : Int32)]) (rest := []) S (c_X8_ofRow (h12 := h12)  hf) gX8_rhymeThere_X8_ofRow rfl yk_X8_ofRow ⟨⟨Nat.le_of_ble_eq_true rfl, Nat.le_of_ble_eq_true rfl⟩, rfl, rfl⟩ hK hP hD hS hX hA (h12 0 (by decide)) (cF_m E _ _ 0) rfl rfl hl.1 rfl (Nat.le_of_ble_eq_true rfl) ⟨Nat.zero_le _, Nat.zero_le _⟩ dX8_rhymeThere_3 (fun v_3 I_1 J_2 H locs hf hP hD hS => ?_)
  refine lv_if_ne (tgt := 13) S.1 S.2.1 dX8_rhymeThere_6 (by decide) (fun h_4 => ?_) (fun h_4 => ?_)
  · have hf := hf.2 h_4
    refine lv_aload_n S.1 S.2.1 dX8_rhymeThere_13 rfl (lv_at hl 0 rfl) ?_
    refine lv_iload_n S.1 S.2.1 dX8_rhymeThere_14 rfl (lv_at hl 1 rfl) ?_
    refine lv_iload_n S.1 S.2.1 dX8_rhymeThere_15 rfl (lv_at hl 2 rfl) ?_
    refine lv_iload_n S.1 S.2.1 dX8_rhymeThere_16 rfl (lv_at hl 3 rfl) ?_
    refine R_cVi (As := [.int x1, .int x2, .int x3]) (rest := []) S (c_X8_rhymeWith (h12 := h12)  hf) gX8_rhymeThere_X8_rhymeWith rfl yk_X8_rhymeWith ⟨⟨Nat.le_of_ble_eq_true rfl, Nat.le_of_ble_eq_true rfl⟩, rfl, rfl⟩ hK hP hD hS hX hA (h12 0 (by decide)) (cF_m E _ _ 0) rfl rfl hl.1 rfl (Nat.le_of_ble_eq_true rfl) ⟨Nat.zero_le _, Nat.zero_le _⟩ dX8_rhymeThere_17 (fun v_7 I_5 J_6 H locs hf hP hD hS => ?_)
    exact hret hf rfl hP hD hS dX8_rhymeThere_20
  · have hf := hf.1 h_4
    refine lv_iconst (v := 0) S.1 S.2.1 dX8_rhymeThere_9 rfl ?_
    refine lv_goto (tgt := 20) S.1 S.2.1 dX8_rhymeThere_10 (by decide) ?_
    exact hret hf rfl hP hD hS dX8_rhymeThere_20
abbrev rmX8_pointsFor : Room := { frames := 5, cells := 0, slots := 0, locals := 109 }
theorem yk_X8_pointsFor : yOk yX8_pointsFor RX8 3 := by unfold yOk; decide +kernel
def f_X8_pointsFor (x1 : Int32) (x2 : Int32) (x3 : Int32) (I : MI) (J : MJ) (Q : Int32 → MI → MJ → Prop) : Prop :=
  f_X8_lengthOf x1 x2 I J (fun (v_3 : Int32) (I_1 : MI) (J_2 : MJ) => (vp_in (3 : Int32) 1802 ∧ f_X8_rhymeThere x1 x2 x3 I_1 J_2 (fun (v_7 : Int32) (I_5 : MI) (J_6 : MJ) => f_X8_free x3 I_5 J_6 (fun (v_10 : Int32) (I_8 : MI) (J_9 : MJ) => ((v_3 = v_10 → (vp_in (4 : Int32) 1802 ∧ f_X8_ofRow x3 (2 : Int32) I_8 J_9 (fun (v_15 : Int32) (I_13 : MI) (J_14 : MJ) => Q ((v_3 + ((I_1 12 2 (3 : Int32).toNatClampNeg) * v_7)) + ((I_8 12 2 (4 : Int32).toNatClampNeg) * (v_15 + (1 : Int32)))) I_13 J_14))) ∧ (¬ v_3 = v_10 → Q ((v_3 + ((I_1 12 2 (3 : Int32).toNatClampNeg) * v_7)) + (0 : Int32)) I_8 J_9))))))
set_option maxRecDepth 100000 in
set_option maxHeartbeats 4000000 in
theorem c_X8_pointsFor {l : Launch} {E : EV} {ps : List (Nat × Nat)} (h12 : ∀ r, r < 17 → (12, r) ∈ ps) {x1 : Int32} {x2 : Int32} {x3 : Int32} {I : MI} {J : MJ} {Q : Int32 → MI → MJ → Prop} (hf : f_X8_pointsFor x1 x2 x3 I J Q) : KI l yX8_pointsFor wsX8_pointsFor rmX8_pointsFor E ps [.ref (eA E 12 0), .int x1, .int x2, .int x3] I J Q := by
  refine K_ofI (cc := cX8_pointsFor) (maxL := 5) (ty := .int) (by decide +kernel) rfl (Nat.le_of_ble_eq_true rfl) (fun p e s m args below meth c Qm hret S hK hX => ?_)
  have hA : ∀ q, s.heap.size ≤ q → AA E ps s.heap.size q := fun _ h => Or.inr h
  have k1 := S.2.2.2.2 (.fieldLink RX8 17 "RhymeRoofsModel" "data" "[I") (by decide +kernel)
  have iX8 : ∀ w ∈ wsX80, w ∈ wsX8_pointsFor := fun _ h => List.mem_cons_of_mem _ (List.mem_append_right _ h)
  intro H locs ls hP hD hS hl
  unfold f_X8_pointsFor at hf
  refine lv_aload_n S.1 S.2.1 dX8_pointsFor_0 rfl (lv_at hl 0 rfl) ?_
  refine lv_iload_n S.1 S.2.1 dX8_pointsFor_1 rfl (lv_at hl 1 rfl) ?_
  refine lv_iload_n S.1 S.2.1 dX8_pointsFor_2 rfl (lv_at hl 2 rfl) ?_
  refine R_cVi (As := [.int x1, .int x2]) (rest := []) S (c_X8_lengthOf (h12 := h12)  hf) gX8_pointsFor_X8_lengthOf rfl yk_X8_lengthOf ⟨⟨Nat.le_of_ble_eq_true rfl, Nat.le_of_ble_eq_true rfl⟩, rfl, rfl⟩ hK hP hD hS hX hA (h12 0 (by decide)) (cF_m E _ _ 0) rfl rfl hl.1 rfl (Nat.le_of_ble_eq_true rfl) ⟨Nat.zero_le _, Nat.zero_le _⟩ dX8_pointsFor_3 (fun v_3 I_1 J_2 H locs hf hP hD hS => ?_)
  refine lv_istore (lv' := [(4, .int v_3), (0, .ref (eA E 12 0)), (1, .int x1), (2, .int x2), (3, .int x3)]) S.1 S.2.1 dX8_pointsFor_6 hl (by decide) rfl (fun ls hl => ?_)
  refine lv_iload S.1 S.2.1 dX8_pointsFor_8 (lv_at hl 0 rfl) ?_
  refine lv_aload_n S.1 S.2.1 dX8_pointsFor_10 rfl (lv_at hl 1 rfl) ?_
  refine gfX8_8 S iX8 hK hP (h12 0 (by decide)) k1 dX8_pointsFor_11 ?_
  refine lv_iconst (v := 3) S.1 S.2.1 dX8_pointsFor_14 rfl ?_
  obtain ⟨h_4, hf⟩ := hf
  refine R_iald S.1 S.2.1 hK hP (h12 2 (by decide)) (IAm2 E) h_4 dX8_pointsFor_15 ?_
  refine lv_aload_n S.1 S.2.1 dX8_pointsFor_16 rfl (lv_at hl 1 rfl) ?_
  refine lv_iload_n S.1 S.2.1 dX8_pointsFor_17 rfl (lv_at hl 2 rfl) ?_
  refine lv_iload_n S.1 S.2.1 dX8_pointsFor_18 rfl (lv_at hl 3 rfl) ?_
  refine lv_iload_n S.1 S.2.1 dX8_pointsFor_19 rfl (lv_at hl 4 rfl) ?_
  refine R_cVi (As := [.int x1, .int x2, .int x3]) (rest := [.int (I_1 12 2 (3 : Int32).toNatClampNeg), .int v_3]) S (c_X8_rhymeThere (h12 := h12)  hf) gX8_pointsFor_X8_rhymeThere rfl yk_X8_rhymeThere ⟨⟨Nat.le_of_ble_eq_true rfl, Nat.le_of_ble_eq_true rfl⟩, rfl, rfl⟩ hK hP hD hS hX hA (h12 0 (by decide)) (cF_m E _ _ 0) rfl rfl hl.1 rfl (Nat.le_of_ble_eq_true rfl) ⟨Nat.zero_le _, Nat.zero_le _⟩ dX8_pointsFor_20 (fun v_7 I_5 J_6 H locs hf hP hD hS => ?_)
  refine lv_imul S.1 S.2.1 dX8_pointsFor_23 ?_
  refine lv_iadd S.1 S.2.1 dX8_pointsFor_24 ?_
  refine lv_iload S.1 S.2.1 dX8_pointsFor_25 (lv_at hl 0 rfl) ?_
  refine lv_aload_n S.1 S.2.1 dX8_pointsFor_27 rfl (lv_at hl 1 rfl) ?_
  refine lv_iload_n S.1 S.2.1 dX8_pointsFor_28 rfl (lv_at hl 4 rfl) ?_
  refine R_cVi (As := [.int x3]) (rest := [.int v_3, .int (v_3 + ((I_1 12 2 (3 : Int32).toNatClampNeg) * v_7))]) S (c_X8_free (h12 := h12)  hf) gX8_pointsFor_X8_free rfl yk_X8_free ⟨⟨Nat.le_of_ble_eq_true rfl, Nat.le_of_ble_eq_true rfl⟩, rfl, rfl⟩ hK hP hD hS hX hA (h12 0 (by decide)) (cF_m E _ _ 0) rfl rfl hl.1 rfl (Nat.le_of_ble_eq_true rfl) ⟨Nat.zero_le _, Nat.zero_le _⟩ dX8_pointsFor_29 (fun v_10 I_8 J_9 H locs hf hP hD hS => ?_)
  refine lv_icmp_ne (tgt := 53) S.1 S.2.1 dX8_pointsFor_32 (by decide) (fun h_11 => ?_) (fun h_11 => ?_)
  · have hf := hf.2 h_11
    refine lv_iconst (v := 0) S.1 S.2.1 dX8_pointsFor_53 rfl ?_
    refine lv_iadd S.1 S.2.1 dX8_pointsFor_54 ?_
    exact hret hf rfl hP hD hS dX8_pointsFor_55
  · have hf := hf.1 h_11
    refine lv_aload_n S.1 S.2.1 dX8_pointsFor_35 rfl (lv_at hl 1 rfl) ?_
    refine gfX8_8 S iX8 hK hP (h12 0 (by decide)) k1 dX8_pointsFor_36 ?_
    refine lv_iconst (v := 4) S.1 S.2.1 dX8_pointsFor_39 rfl ?_
    obtain ⟨h_12, hf⟩ := hf
    refine R_iald S.1 S.2.1 hK hP (h12 2 (by decide)) (IAm2 E) h_12 dX8_pointsFor_40 ?_
    refine lv_aload_n S.1 S.2.1 dX8_pointsFor_41 rfl (lv_at hl 1 rfl) ?_
    refine lv_iload_n S.1 S.2.1 dX8_pointsFor_42 rfl (lv_at hl 4 rfl) ?_
    refine lv_iconst (v := 2) S.1 S.2.1 dX8_pointsFor_43 rfl ?_
    refine R_cVi (As := [.int x3, .int (2 : Int32)]) (rest := [.int (I_8 12 2 (4 : Int32).toNatClampNeg), .int (v_3 + ((I_1 12 2 (3 : Int32).toNatClampNeg) * v_7))]) S (c_X8_ofRow (h12 := h12)  hf) gX8_pointsFor_X8_ofRow rfl yk_X8_ofRow ⟨⟨Nat.le_of_ble_eq_true rfl, Nat.le_of_ble_eq_true rfl⟩, rfl, rfl⟩ hK hP hD hS hX hA (h12 0 (by decide)) (cF_m E _ _ 0) rfl rfl hl.1 rfl (Nat.le_of_ble_eq_true rfl) ⟨Nat.zero_le _, Nat.zero_le _⟩ dX8_pointsFor_44 (fun v_15 I_13 J_14 H locs hf hP hD hS => ?_)
    refine lv_iconst (v := 1) S.1 S.2.1 dX8_pointsFor_47 rfl ?_
    refine lv_iadd S.1 S.2.1 dX8_pointsFor_48 ?_
    refine lv_imul S.1 S.2.1 dX8_pointsFor_49 ?_
    refine lv_goto (tgt := 54) S.1 S.2.1 dX8_pointsFor_50 (by decide) ?_
    refine lv_iadd S.1 S.2.1 dX8_pointsFor_54 ?_
    exact hret hf rfl hP hD hS dX8_pointsFor_55
