abbrev rmX8_chains : Room := { frames := 7, cells := 0, slots := 0, locals := 169 }
theorem yk_X8_chains : yOk yX8_chains RX8 3 := by unfold yOk; decide +kernel
def f_X8_chains_J42 (Q : Int32 → MI → MJ → Prop) (x1_11 : Int32) (x2_12 : Int32) (x3_13 : Int32) (I_14 : MI) (J_15 : MJ) : Prop :=
  f_X8_ofChains x1_11 x2_12 x3_13 I_14 J_15 (fun (v_18 : Int32) (I_16 : MI) (J_17 : MJ) => Q v_18 I_16 J_17)
def f_X8_chains (x1 : Int32) (x2 : Int32) (x3 : Int32) (I : MI) (J : MJ) (Q : Int32 → MI → MJ → Prop) : Prop :=
  ∀ I_1 : MI, I_1 = sI I 12 0 0 (0 : Int32) → f_X8_noPlayer x1 I_1 J (fun (v_4 : Int32) (I_2 : MI) (J_3 : MJ) => ((v_4 = (0 : Int32) → f_X8_noRow x2 I_2 J_3 (fun (v_8 : Int32) (I_6 : MI) (J_7 : MJ) => ((v_8 = (0 : Int32) → ((x3 = (2 : Int32) → f_X8_free x2 I_6 J_7 (fun (v_21 : Int32) (I_19 : MI) (J_20 : MJ) => ((v_21 = (0 : Int32) → Q (1 : Int32) I_19 J_20) ∧ (¬ v_21 = (0 : Int32) → f_X8_chains_J42 Q x1 x2 x3 I_19 J_20)))) ∧ (¬ x3 = (2 : Int32) → f_X8_chains_J42 Q x1 x2 x3 I_6 J_7))) ∧ (¬ v_8 = (0 : Int32) → Q (0 : Int32) I_6 J_7)))) ∧ (¬ v_4 = (0 : Int32) → Q (0 : Int32) I_2 J_3)))
set_option maxRecDepth 100000 in
set_option maxHeartbeats 4000000 in
theorem c_X8_chains {l : Launch} {E : EV} {ps : List (Nat × Nat)} (h12 : ∀ r, r < 17 → (12, r) ∈ ps) {x1 : Int32} {x2 : Int32} {x3 : Int32} {I : MI} {J : MJ} {Q : Int32 → MI → MJ → Prop} (hf : f_X8_chains x1 x2 x3 I J Q) : KI l yX8_chains wsX8_chains rmX8_chains E ps [.ref (eA E 12 0), .int x1, .int x2, .int x3] I J Q := by
  refine K_ofI (cc := cX8_chains) (maxL := 4) (ty := .int) (by decide +kernel) rfl (Nat.le_of_ble_eq_true rfl) (fun p e s m args below meth c Qm hret S hK hX => ?_)
  have hA : ∀ q, s.heap.size ≤ q → AA E ps s.heap.size q := fun _ h => Or.inr h
  have k1 := S.2.2.2.2 (.fieldLink RX8 49 "RhymeRoofsModel" "thrown" "I") (by decide +kernel)
  have iX8 : ∀ w ∈ wsX80, w ∈ wsX8_chains := fun _ h => List.mem_cons_of_mem _ (List.mem_append_right _ h)
  have jn42 : ∀ (x1_11 : Int32) (x2_12 : Int32) (x3_13 : Int32) (I_14 : MI) (J_15 : MJ), f_X8_chains_J42 Q x1_11 x2_12 x3_13 I_14 J_15 → Wj p l e (rmX8_chains) s m args below meth c Qm E ps 4 I_14 J_15 42 [(0, .ref (eA E 12 0)), (1, .int x1_11), (2, .int x2_12), (3, .int x3_13)] [] := by
    intro x1_11 x2_12 x3_13 I_14 J_15 hf H locs ls hP hD hS hl
    unfold f_X8_chains_J42 at hf
    refine lv_aload_n S.1 S.2.1 dX8_chains_42 rfl (lv_at hl 0 rfl) ?_
    refine lv_iload_n S.1 S.2.1 dX8_chains_43 rfl (lv_at hl 1 rfl) ?_
    refine lv_iload_n S.1 S.2.1 dX8_chains_44 rfl (lv_at hl 2 rfl) ?_
    refine lv_iload_n S.1 S.2.1 dX8_chains_45 rfl (lv_at hl 3 rfl) ?_
    refine R_cVi (As := [.int x1_11, .int x2_12, .int x3_13]) (rest := []) S (c_X8_ofChains (h12 := h12)  hf) gX8_chains_X8_ofChains rfl yk_X8_ofChains ⟨⟨Nat.le_of_ble_eq_true rfl, Nat.le_of_ble_eq_true rfl⟩, rfl, rfl⟩ hK hP hD hS hX hA (h12 0 (by decide)) (cF_m E _ _ 0) rfl rfl hl.1 rfl (Nat.le_of_ble_eq_true rfl) ⟨Nat.zero_le _, Nat.zero_le _⟩ dX8_chains_46 (fun v_18 I_16 J_17 H locs hf hP hD hS => ?_)
    exact hret hf rfl hP hD hS dX8_chains_49
  intro H locs ls hP hD hS hl
  unfold f_X8_chains at hf
  refine lv_aload_n S.1 S.2.1 dX8_chains_0 rfl (lv_at hl 0 rfl) ?_
  refine lv_iconst (v := 0) S.1 S.2.1 dX8_chains_1 rfl ?_
  refine nm_o hf (fun I_1 eI_1 hf => ?_)
  refine pfX8_0 S iX8 hK hP hD hS (h12 0 (by decide)) k1 dX8_chains_2 eI_1 (fun H locs hP hD hS => ?_)
  refine lv_aload_n S.1 S.2.1 dX8_chains_5 rfl (lv_at hl 0 rfl) ?_
  refine lv_iload_n S.1 S.2.1 dX8_chains_6 rfl (lv_at hl 1 rfl) ?_
  refine R_cVi (As := [.int x1]) (rest := []) S (c_X8_noPlayer (h12 := h12)  hf) gX8_chains_X8_noPlayer rfl yk_X8_noPlayer ⟨⟨Nat.le_of_ble_eq_true rfl, Nat.le_of_ble_eq_true rfl⟩, rfl, rfl⟩ hK hP hD hS hX hA (h12 0 (by decide)) (cF_m E _ _ 0) rfl rfl hl.1 rfl (Nat.le_of_ble_eq_true rfl) ⟨Nat.zero_le _, Nat.zero_le _⟩ dX8_chains_7 (fun v_4 I_2 J_3 H locs hf hP hD hS => ?_)
  refine lv_if_ne (tgt := 21) S.1 S.2.1 dX8_chains_10 (by decide) (fun h_5 => ?_) (fun h_5 => ?_)
  · have hf := hf.2 h_5
    refine lv_iconst (v := 0) S.1 S.2.1 dX8_chains_21 rfl ?_
    refine lv_goto (tgt := 49) S.1 S.2.1 dX8_chains_22 (by decide) ?_
    exact hret hf rfl hP hD hS dX8_chains_49
  · have hf := hf.1 h_5
    refine lv_aload_n S.1 S.2.1 dX8_chains_13 rfl (lv_at hl 0 rfl) ?_
    refine lv_iload_n S.1 S.2.1 dX8_chains_14 rfl (lv_at hl 2 rfl) ?_
    refine R_cVi (As := [.int x2]) (rest := []) S (c_X8_noRow (h12 := h12)  hf) gX8_chains_X8_noRow rfl yk_X8_noRow ⟨⟨Nat.le_of_ble_eq_true rfl, Nat.le_of_ble_eq_true rfl⟩, rfl, rfl⟩ hK hP hD hS hX hA (h12 0 (by decide)) (cF_m E _ _ 0) rfl rfl hl.1 rfl (Nat.le_of_ble_eq_true rfl) ⟨Nat.zero_le _, Nat.zero_le _⟩ dX8_chains_15 (fun v_8 I_6 J_7 H locs hf hP hD hS => ?_)
    refine lv_if_eq (tgt := 25) S.1 S.2.1 dX8_chains_18 (by decide) (fun h_9 => ?_) (fun h_9 => ?_)
    · have hf := hf.1 h_9
      refine lv_iload_n S.1 S.2.1 dX8_chains_25 rfl (lv_at hl 3 rfl) ?_
      refine lv_iconst (v := 2) S.1 S.2.1 dX8_chains_26 rfl ?_
      refine lv_icmp_ne (tgt := 42) S.1 S.2.1 dX8_chains_27 (by decide) (fun h_10 => ?_) (fun h_10 => ?_)
      · have hf := hf.2 h_10
        exact jn42 _ _ _ _ _ hf _ _ _ hP hD hS (lv_sub hl [0, 1, 2, 3] rfl)
      · have hf := hf.1 h_10
        refine lv_aload_n S.1 S.2.1 dX8_chains_30 rfl (lv_at hl 0 rfl) ?_
        refine lv_iload_n S.1 S.2.1 dX8_chains_31 rfl (lv_at hl 2 rfl) ?_
        refine R_cVi (As := [.int x2]) (rest := []) S (c_X8_free (h12 := h12)  hf) gX8_chains_X8_free rfl yk_X8_free ⟨⟨Nat.le_of_ble_eq_true rfl, Nat.le_of_ble_eq_true rfl⟩, rfl, rfl⟩ hK hP hD hS hX hA (h12 0 (by decide)) (cF_m E _ _ 0) rfl rfl hl.1 rfl (Nat.le_of_ble_eq_true rfl) ⟨Nat.zero_le _, Nat.zero_le _⟩ dX8_chains_32 (fun v_21 I_19 J_20 H locs hf hP hD hS => ?_)
        refine lv_if_ne (tgt := 42) S.1 S.2.1 dX8_chains_35 (by decide) (fun h_22 => ?_) (fun h_22 => ?_)
        · have hf := hf.2 h_22
          exact jn42 _ _ _ _ _ hf _ _ _ hP hD hS (lv_sub hl [0, 1, 2, 3] rfl)
        · have hf := hf.1 h_22
          refine lv_iconst (v := 1) S.1 S.2.1 dX8_chains_38 rfl ?_
          refine lv_goto (tgt := 49) S.1 S.2.1 dX8_chains_39 (by decide) ?_
          exact hret hf rfl hP hD hS dX8_chains_49
    · have hf := hf.2 h_9
      refine lv_iconst (v := 0) S.1 S.2.1 dX8_chains_21 rfl ?_
      refine lv_goto (tgt := 49) S.1 S.2.1 dX8_chains_22 (by decide) ?_
      exact hret hf rfl hP hD hS dX8_chains_49
abbrev rmX8_chain : Room := { frames := 8, cells := 0, slots := 0, locals := 192 }
theorem yk_X8_chain : yOk yX8_chain RX8 2 := by unfold yOk; decide +kernel
def f_X8_chain (x1 : Int32) (x2 : Int32) (I : MI) (J : MJ) (Q : Int32 → MI → MJ → Prop) : Prop :=
  f_X8_chains x1 x2 (0 : Int32) I J (fun (v_3 : Int32) (I_1 : MI) (J_2 : MJ) => Q v_3 I_1 J_2)
set_option maxRecDepth 100000 in
set_option maxHeartbeats 4000000 in
theorem c_X8_chain {l : Launch} {E : EV} {ps : List (Nat × Nat)} (h12 : ∀ r, r < 17 → (12, r) ∈ ps) {x1 : Int32} {x2 : Int32} {I : MI} {J : MJ} {Q : Int32 → MI → MJ → Prop} (hf : f_X8_chain x1 x2 I J Q) : KI l yX8_chain wsX8_chain rmX8_chain E ps [.ref (eA E 12 0), .int x1, .int x2] I J Q := by
  refine K_ofI (cc := cX8_chain) (maxL := 3) (ty := .int) (by decide +kernel) rfl (Nat.le_of_ble_eq_true rfl) (fun p e s m args below meth c Qm hret S hK hX => ?_)
  have hA : ∀ q, s.heap.size ≤ q → AA E ps s.heap.size q := fun _ h => Or.inr h
  intro H locs ls hP hD hS hl
  unfold f_X8_chain at hf
  refine lv_aload_n S.1 S.2.1 dX8_chain_0 rfl (lv_at hl 0 rfl) ?_
  refine lv_iload_n S.1 S.2.1 dX8_chain_1 rfl (lv_at hl 1 rfl) ?_
  refine lv_iload_n S.1 S.2.1 dX8_chain_2 rfl (lv_at hl 2 rfl) ?_
  refine lv_iconst (v := 0) S.1 S.2.1 dX8_chain_3 rfl ?_
  refine R_cVi (As := [.int x1, .int x2, .int (0 : Int32)]) (rest := []) S (c_X8_chains (h12 := h12)  hf) gX8_chain_X8_chains rfl yk_X8_chains ⟨⟨Nat.le_of_ble_eq_true rfl, Nat.le_of_ble_eq_true rfl⟩, rfl, rfl⟩ hK hP hD hS hX hA (h12 0 (by decide)) (cF_m E _ _ 0) rfl rfl hl.1 rfl (Nat.le_of_ble_eq_true rfl) ⟨Nat.zero_le _, Nat.zero_le _⟩ dX8_chain_4 (fun v_3 I_1 J_2 H locs hf hP hD hS => ?_)
  exact hret hf rfl hP hD hS dX8_chain_7
abbrev rmX8_worth : Room := { frames := 8, cells := 0, slots := 0, locals := 192 }
theorem yk_X8_worth : yOk yX8_worth RX8 2 := by unfold yOk; decide +kernel
def f_X8_worth (x1 : Int32) (x2 : Int32) (I : MI) (J : MJ) (Q : Int32 → MI → MJ → Prop) : Prop :=
  f_X8_chains x1 x2 (1 : Int32) I J (fun (v_3 : Int32) (I_1 : MI) (J_2 : MJ) => Q v_3 I_1 J_2)
set_option maxRecDepth 100000 in
set_option maxHeartbeats 4000000 in
theorem c_X8_worth {l : Launch} {E : EV} {ps : List (Nat × Nat)} (h12 : ∀ r, r < 17 → (12, r) ∈ ps) {x1 : Int32} {x2 : Int32} {I : MI} {J : MJ} {Q : Int32 → MI → MJ → Prop} (hf : f_X8_worth x1 x2 I J Q) : KI l yX8_worth wsX8_worth rmX8_worth E ps [.ref (eA E 12 0), .int x1, .int x2] I J Q := by
  refine K_ofI (cc := cX8_worth) (maxL := 3) (ty := .int) (by decide +kernel) rfl (Nat.le_of_ble_eq_true rfl) (fun p e s m args below meth c Qm hret S hK hX => ?_)
  have hA : ∀ q, s.heap.size ≤ q → AA E ps s.heap.size q := fun _ h => Or.inr h
  intro H locs ls hP hD hS hl
  unfold f_X8_worth at hf
  refine lv_aload_n S.1 S.2.1 dX8_worth_0 rfl (lv_at hl 0 rfl) ?_
  refine lv_iload_n S.1 S.2.1 dX8_worth_1 rfl (lv_at hl 1 rfl) ?_
  refine lv_iload_n S.1 S.2.1 dX8_worth_2 rfl (lv_at hl 2 rfl) ?_
  refine lv_iconst (v := 1) S.1 S.2.1 dX8_worth_3 rfl ?_
  refine R_cVi (As := [.int x1, .int x2, .int (1 : Int32)]) (rest := []) S (c_X8_chains (h12 := h12)  hf) gX8_worth_X8_chains rfl yk_X8_chains ⟨⟨Nat.le_of_ble_eq_true rfl, Nat.le_of_ble_eq_true rfl⟩, rfl, rfl⟩ hK hP hD hS hX hA (h12 0 (by decide)) (cF_m E _ _ 0) rfl rfl hl.1 rfl (Nat.le_of_ble_eq_true rfl) ⟨Nat.zero_le _, Nat.zero_le _⟩ dX8_worth_4 (fun v_3 I_1 J_2 H locs hf hP hD hS => ?_)
  exact hret hf rfl hP hD hS dX8_worth_7
abbrev rmX8_fillings : Room := { frames := 8, cells := 0, slots := 0, locals := 192 }
theorem yk_X8_fillings : yOk yX8_fillings RX8 2 := by unfold yOk; decide +kernel
def f_X8_fillings (x1 : Int32) (x2 : Int32) (I : MI) (J : MJ) (Q : Int32 → MI → MJ → Prop) : Prop :=
  f_X8_chains x1 x2 (2 : Int32) I J (fun (v_3 : Int32) (I_1 : MI) (J_2 : MJ) => Q v_3 I_1 J_2)
set_option maxRecDepth 100000 in
set_option maxHeartbeats 4000000 in
theorem c_X8_fillings {l : Launch} {E : EV} {ps : List (Nat × Nat)} (h12 : ∀ r, r < 17 → (12, r) ∈ ps) {x1 : Int32} {x2 : Int32} {I : MI} {J : MJ} {Q : Int32 → MI → MJ → Prop} (hf : f_X8_fillings x1 x2 I J Q) : KI l yX8_fillings wsX8_fillings rmX8_fillings E ps [.ref (eA E 12 0), .int x1, .int x2] I J Q := by
  refine K_ofI (cc := cX8_fillings) (maxL := 3) (ty := .int) (by decide +kernel) rfl (Nat.le_of_ble_eq_true rfl) (fun p e s m args below meth c Qm hret S hK hX => ?_)
  have hA : ∀ q, s.heap.size ≤ q → AA E ps s.heap.size q := fun _ h => Or.inr h
  intro H locs ls hP hD hS hl
  unfold f_X8_fillings at hf
  refine lv_aload_n S.1 S.2.1 dX8_fillings_0 rfl (lv_at hl 0 rfl) ?_
  refine lv_iload_n S.1 S.2.1 dX8_fillings_1 rfl (lv_at hl 1 rfl) ?_
  refine lv_iload_n S.1 S.2.1 dX8_fillings_2 rfl (lv_at hl 2 rfl) ?_
  refine lv_iconst (v := 2) S.1 S.2.1 dX8_fillings_3 rfl ?_
  refine R_cVi (As := [.int x1, .int x2, .int (2 : Int32)]) (rest := []) S (c_X8_chains (h12 := h12)  hf) gX8_fillings_X8_chains rfl yk_X8_chains ⟨⟨Nat.le_of_ble_eq_true rfl, Nat.le_of_ble_eq_true rfl⟩, rfl, rfl⟩ hK hP hD hS hX hA (h12 0 (by decide)) (cF_m E _ _ 0) rfl rfl hl.1 rfl (Nat.le_of_ble_eq_true rfl) ⟨Nat.zero_le _, Nat.zero_le _⟩ dX8_fillings_4 (fun v_3 I_1 J_2 H locs hf hP hD hS => ?_)
  exact hret hf rfl hP hD hS dX8_fillings_7
abbrev rmX8_threats : Room := { frames := 5, cells := 0, slots := 0, locals := 109 }
theorem yk_X8_threats : yOk yX8_threats RX8 1 := by unfold yOk; decide +kernel
def f_X8_threats_B32 (x1_13 : Int32) (x3_15 : Int32) (K81 : Int32 → MI → MJ → Prop) (rec32 : Int32 → Int32 → MI → MJ → Prop) (x2_14 : Int32) (x4_16 : Int32) (I_17 : MI) (J_18 : MJ) : Prop :=
  f_X8_ofPlayer x3_15 (1 : Int32) I_17 J_18 (fun (v_21 : Int32) (I_19 : MI) (J_20 : MJ) => ((v_21 ≤ x4_16 → K81 x2_14 I_19 J_20) ∧ (¬ v_21 ≤ x4_16 → f_X8_hinders x3_15 x4_16 x1_13 I_19 J_20 (fun (v_25 : Int32) (I_23 : MI) (J_24 : MJ) => ((v_25 = (0 : Int32) → f_X8_lengthOf x3_15 x4_16 I_23 J_24 (fun (v_30 : Int32) (I_28 : MI) (J_29 : MJ) => f_X8_free x1_13 I_28 J_29 (fun (v_33 : Int32) (I_31 : MI) (J_32 : MJ) => ((v_30 = v_33 → ∀ x2_36 : Int32, x2_36 = (x2_14 ||| ((1 : Int32) <<< (x3_15 &&& 31))) → ∀ x4_37 : Int32, x4_37 = x4_16 + (1 : Int32) → rec32 x2_36 x4_37 I_31 J_32) ∧ (¬ v_30 = v_33 → ∀ x4_35 : Int32, x4_35 = x4_16 + (1 : Int32) → rec32 x2_14 x4_35 I_31 J_32))))) ∧ (¬ v_25 = (0 : Int32) → ∀ x4_27 : Int32, x4_27 = x4_16 + (1 : Int32) → rec32 x2_14 x4_27 I_23 J_24))))))
def f_X8_threats_L32 (x1_13 : Int32) (x3_15 : Int32) (K81 : Int32 → MI → MJ → Prop) : Nat → Int32 → Int32 → MI → MJ → Prop
  | 0, _, _, _, _ => False
  | n + 1, x2_14, x4_16, I_17, J_18 => f_X8_threats_B32 x1_13 x3_15 K81 (f_X8_threats_L32 x1_13 x3_15 K81 n) x2_14 x4_16 I_17 J_18
def f_X8_threats_B19 (x1_6 : Int32) (K87 : Int32 → MI → MJ → Prop) (rec19 : Int32 → Int32 → MI → MJ → Prop) (x2_7 : Int32) (x3_8 : Int32) (I_9 : MI) (J_10 : MJ) : Prop :=
  (vp_in (1 : Int32) 1802 ∧ (((I_9 12 2 (1 : Int32).toNatClampNeg) ≤ x3_8 → K87 x2_7 I_9 J_10) ∧ (¬ (I_9 12 2 (1 : Int32).toNatClampNeg) ≤ x3_8 → ∃ n : Nat, f_X8_threats_L32 x1_6 x3_8 (fun (x2_38 : Int32) (I_39 : MI) (J_40 : MJ) => ∀ x3_41 : Int32, x3_41 = x3_8 + (1 : Int32) → rec19 x2_38 x3_41 I_39 J_40) n x2_7 (0 : Int32) I_9 J_10)))
def f_X8_threats_L19 (x1_6 : Int32) (K87 : Int32 → MI → MJ → Prop) : Nat → Int32 → Int32 → MI → MJ → Prop
  | 0, _, _, _, _ => False
  | n + 1, x2_7, x3_8, I_9, J_10 => f_X8_threats_B19 x1_6 K87 (f_X8_threats_L19 x1_6 K87 n) x2_7 x3_8 I_9 J_10
def f_X8_threats (x1 : Int32) (I : MI) (J : MJ) (Q : Int32 → MI → MJ → Prop) : Prop :=
  ∀ I_1 : MI, I_1 = sI I 12 0 0 (0 : Int32) → f_X8_noRow x1 I_1 J (fun (v_4 : Int32) (I_2 : MI) (J_3 : MJ) => ((v_4 = (0 : Int32) → ∃ n : Nat, f_X8_threats_L19 x1 (fun (x2_43 : Int32) (I_44 : MI) (J_45 : MJ) => Q x2_43 I_44 J_45) n (0 : Int32) (0 : Int32) I_2 J_3) ∧ (¬ v_4 = (0 : Int32) → Q (0 : Int32) I_2 J_3)))
set_option maxRecDepth 100000 in
set_option maxHeartbeats 4000000 in
theorem c_X8_threats {l : Launch} {E : EV} {ps : List (Nat × Nat)} (h12 : ∀ r, r < 17 → (12, r) ∈ ps) {x1 : Int32} {I : MI} {J : MJ} {Q : Int32 → MI → MJ → Prop} (hf : f_X8_threats x1 I J Q) : KI l yX8_threats wsX8_threats rmX8_threats E ps [.ref (eA E 12 0), .int x1] I J Q := by
  refine K_ofI (cc := cX8_threats) (maxL := 5) (ty := .int) (by decide +kernel) rfl (Nat.le_of_ble_eq_true rfl) (fun p e s m args below meth c Qm hret S hK hX => ?_)
  have hA : ∀ q, s.heap.size ≤ q → AA E ps s.heap.size q := fun _ h => Or.inr h
  have k1 := S.2.2.2.2 (.fieldLink RX8 49 "RhymeRoofsModel" "thrown" "I") (by decide +kernel)
  have iX8 : ∀ w ∈ wsX80, w ∈ wsX8_threats := fun _ h => List.mem_cons_of_mem _ (List.mem_append_right _ h)
  have k2 := S.2.2.2.2 (.fieldLink RX8 17 "RhymeRoofsModel" "data" "[I") (by decide +kernel)
  intro H locs ls hP hD hS hl
  unfold f_X8_threats at hf
  refine lv_aload_n S.1 S.2.1 dX8_threats_0 rfl (lv_at hl 0 rfl) ?_
  refine lv_iconst (v := 0) S.1 S.2.1 dX8_threats_1 rfl ?_
  refine nm_o hf (fun I_1 eI_1 hf => ?_)
  refine pfX8_0 S iX8 hK hP hD hS (h12 0 (by decide)) k1 dX8_threats_2 eI_1 (fun H locs hP hD hS => ?_)
  refine lv_aload_n S.1 S.2.1 dX8_threats_5 rfl (lv_at hl 0 rfl) ?_
  refine lv_iload_n S.1 S.2.1 dX8_threats_6 rfl (lv_at hl 1 rfl) ?_
  refine R_cVi (As := [.int x1]) (rest := []) S (c_X8_noRow (h12 := h12)  hf) gX8_threats_X8_noRow rfl yk_X8_noRow ⟨⟨Nat.le_of_ble_eq_true rfl, Nat.le_of_ble_eq_true rfl⟩, rfl, rfl⟩ hK hP hD hS hX hA (h12 0 (by decide)) (cF_m E _ _ 0) rfl rfl hl.1 rfl (Nat.le_of_ble_eq_true rfl) ⟨Nat.zero_le _, Nat.zero_le _⟩ dX8_threats_7 (fun v_4 I_2 J_3 H locs hf hP hD hS => ?_)
  refine lv_if_eq (tgt := 15) S.1 S.2.1 dX8_threats_10 (by decide) (fun h_5 => ?_) (fun h_5 => ?_)
  · have hf := hf.1 h_5
    refine lv_iconst (v := 0) S.1 S.2.1 dX8_threats_15 rfl ?_
    refine lv_istore_n (lv' := [(2, .int (0 : Int32)), (0, .ref (eA E 12 0)), (1, .int x1)]) S.1 S.2.1 dX8_threats_16 rfl hl (by decide) rfl (fun ls hl => ?_)
    refine lv_iconst (v := 0) S.1 S.2.1 dX8_threats_17 rfl ?_
    refine lv_istore_n (lv' := [(3, .int (0 : Int32)), (2, .int (0 : Int32)), (0, .ref (eA E 12 0)), (1, .int x1)]) S.1 S.2.1 dX8_threats_18 rfl hl (by decide) rfl (fun ls hl => ?_)
    obtain ⟨n_46, hf⟩ := hf
    have L19 : ∀ (x1_6 : Int32), ∀ (K87 : Int32 → MI → MJ → Prop), (∀ (x2_43 : Int32) (I_44 : MI) (J_45 : MJ), K87 x2_43 I_44 J_45 → Wj p l e (rmX8_threats) s m args below meth c Qm E ps 5 I_44 J_45 87 [(2, .int x2_43)] []) → ∀ (n : Nat) (x2_7 : Int32) (x3_8 : Int32) (I_9 : MI) (J_10 : MJ), f_X8_threats_L19 x1_6 K87 n x2_7 x3_8 I_9 J_10 → Wj p l e (rmX8_threats) s m args below meth c Qm E ps 5 I_9 J_10 19 [(0, .ref (eA E 12 0)), (1, .int x1_6), (2, .int x2_7), (3, .int x3_8)] [] := by
      intro x1_6 K87 kx87 n
      induction n with
      | zero => intro x2_7 x3_8 I_9 J_10 hf; exact hf.elim
      | succ n ih19 =>
        intro x2_7 x3_8 I_9 J_10 hf
        have hf : f_X8_threats_B19 x1_6 K87 (f_X8_threats_L19 x1_6 K87 n) x2_7 x3_8 I_9 J_10 := hf
        intro H locs ls hP hD hS hl
        unfold f_X8_threats_B19 at hf
        refine lv_iload_n S.1 S.2.1 dX8_threats_19 rfl (lv_at hl 3 rfl) ?_
        refine lv_aload_n S.1 S.2.1 dX8_threats_20 rfl (lv_at hl 0 rfl) ?_
        refine gfX8_8 S iX8 hK hP (h12 0 (by decide)) k2 dX8_threats_21 ?_
        refine lv_iconst (v := 1) S.1 S.2.1 dX8_threats_24 rfl ?_
        obtain ⟨h_11, hf⟩ := hf
        refine R_iald S.1 S.2.1 hK hP (h12 2 (by decide)) (IAm2 E) h_11 dX8_threats_25 ?_
        refine lv_icmp_ge (tgt := 87) S.1 S.2.1 dX8_threats_26 (by decide) (fun h_12 => ?_) (fun h_12 => ?_)
        · have hf := hf.1 h_12
          exact kx87 _ _ _ hf _ _ _ hP hD hS (lv_sub hl [2] rfl)
        · have hf := hf.2 h_12
          refine lv_iconst (v := 0) S.1 S.2.1 dX8_threats_29 rfl ?_
          refine lv_istore (lv' := [(4, .int (0 : Int32)), (0, .ref (eA E 12 0)), (1, .int x1_6), (2, .int x2_7), (3, .int x3_8)]) S.1 S.2.1 dX8_threats_30 hl (by decide) rfl (fun ls hl => ?_)
          obtain ⟨n_42, hf⟩ := hf
          have L32 : ∀ (x1_13 : Int32), ∀ (x3_15 : Int32), ∀ (K81 : Int32 → MI → MJ → Prop), (∀ (x2_38 : Int32) (I_39 : MI) (J_40 : MJ), K81 x2_38 I_39 J_40 → Wj p l e (rmX8_threats) s m args below meth c Qm E ps 5 I_39 J_40 81 [(0, .ref (eA E 12 0)), (1, .int x1_13), (2, .int x2_38), (3, .int x3_15)] []) → ∀ (n : Nat) (x2_14 : Int32) (x4_16 : Int32) (I_17 : MI) (J_18 : MJ), f_X8_threats_L32 x1_13 x3_15 K81 n x2_14 x4_16 I_17 J_18 → Wj p l e (rmX8_threats) s m args below meth c Qm E ps 5 I_17 J_18 32 [(0, .ref (eA E 12 0)), (1, .int x1_13), (2, .int x2_14), (3, .int x3_15), (4, .int x4_16)] [] := by
            intro x1_13 x3_15 K81 kx81 n
            induction n with
            | zero => intro x2_14 x4_16 I_17 J_18 hf; exact hf.elim
            | succ n ih32 =>
              intro x2_14 x4_16 I_17 J_18 hf
              have hf : f_X8_threats_B32 x1_13 x3_15 K81 (f_X8_threats_L32 x1_13 x3_15 K81 n) x2_14 x4_16 I_17 J_18 := hf
              intro H locs ls hP hD hS hl
              unfold f_X8_threats_B32 at hf
              refine lv_iload S.1 S.2.1 dX8_threats_32 (lv_at hl 4 rfl) ?_
              refine lv_aload_n S.1 S.2.1 dX8_threats_34 rfl (lv_at hl 0 rfl) ?_
              refine lv_iload_n S.1 S.2.1 dX8_threats_35 rfl (lv_at hl 3 rfl) ?_
              refine lv_iconst (v := 1) S.1 S.2.1 dX8_threats_36 rfl ?_
              refine R_cVi (As := [.int x3_15, .int (1 : Int32)]) (rest := [.int x4_16]) S (c_X8_ofPlayer (h12 := h12)  hf) gX8_threats_X8_ofPlayer rfl yk_X8_ofPlayer ⟨⟨Nat.le_of_ble_eq_true rfl, Nat.le_of_ble_eq_true rfl⟩, rfl, rfl⟩ hK hP hD hS hX hA (h12 0 (by decide)) (cF_m E _ _ 0) rfl rfl hl.1 rfl (Nat.le_of_ble_eq_true rfl) ⟨Nat.zero_le _, Nat.zero_le _⟩ dX8_threats_37 (fun v_21 I_19 J_20 H locs hf hP hD hS => ?_)
              refine lv_icmp_ge (tgt := 81) S.1 S.2.1 dX8_threats_40 (by decide) (fun h_22 => ?_) (fun h_22 => ?_)
              · have hf := hf.1 h_22
                exact kx81 _ _ _ hf _ _ _ hP hD hS (lv_sub hl [0, 1, 2, 3] rfl)
              · have hf := hf.2 h_22
                refine lv_aload_n S.1 S.2.1 dX8_threats_43 rfl (lv_at hl 0 rfl) ?_
                refine lv_iload_n S.1 S.2.1 dX8_threats_44 rfl (lv_at hl 3 rfl) ?_
                refine lv_iload S.1 S.2.1 dX8_threats_45 (lv_at hl 4 rfl) ?_
                refine lv_iload_n S.1 S.2.1 dX8_threats_47 rfl (lv_at hl 1 rfl) ?_
                refine R_cVi (As := [.int x3_15, .int x4_16, .int x1_13]) (rest := []) S (c_X8_hinders (h12 := h12)  hf) gX8_threats_X8_hinders rfl yk_X8_hinders ⟨⟨Nat.le_of_ble_eq_true rfl, Nat.le_of_ble_eq_true rfl⟩, rfl, rfl⟩ hK hP hD hS hX hA (h12 0 (by decide)) (cF_m E _ _ 0) rfl rfl hl.1 rfl (Nat.le_of_ble_eq_true rfl) ⟨Nat.zero_le _, Nat.zero_le _⟩ dX8_threats_48 (fun v_25 I_23 J_24 H locs hf hP hD hS => ?_)
                refine lv_if_ne (tgt := 75) S.1 S.2.1 dX8_threats_51 (by decide) (fun h_26 => ?_) (fun h_26 => ?_)
                · have hf := hf.2 h_26
                  refine nm_o hf (fun x4_27 ex4_27 hf => ?_)
                  refine lv_iinc (v := x4_27) (lv' := [(4, .int x4_27), (0, .ref (eA E 12 0)), (1, .int x1_13), (2, .int x2_14), (3, .int x3_15)]) S.1 S.2.1 dX8_threats_75 hl (k := 4) rfl (by rw [ex4_27]; rfl) (by decide) rfl (fun ls hl => ?_)
                  refine lv_goto (tgt := 32) S.1 S.2.1 dX8_threats_78 (by decide) ?_
                  exact ih32 _ _ _ _ hf _ _ _ hP hD hS (lv_sub hl [1, 2, 3, 4, 0] rfl)
                · have hf := hf.1 h_26
                  refine lv_aload_n S.1 S.2.1 dX8_threats_54 rfl (lv_at hl 0 rfl) ?_
                  refine lv_iload_n S.1 S.2.1 dX8_threats_55 rfl (lv_at hl 3 rfl) ?_
                  refine lv_iload S.1 S.2.1 dX8_threats_56 (lv_at hl 4 rfl) ?_
                  refine R_cVi (As := [.int x3_15, .int x4_16]) (rest := []) S (c_X8_lengthOf (h12 := h12)  hf) gX8_threats_X8_lengthOf rfl yk_X8_lengthOf ⟨⟨Nat.le_of_ble_eq_true rfl, Nat.le_of_ble_eq_true rfl⟩, rfl, rfl⟩ hK hP hD hS hX hA (h12 0 (by decide)) (cF_m E _ _ 0) rfl rfl hl.1 rfl (Nat.le_of_ble_eq_true rfl) ⟨Nat.zero_le _, Nat.zero_le _⟩ dX8_threats_58 (fun v_30 I_28 J_29 H locs hf hP hD hS => ?_)
                  refine lv_aload_n S.1 S.2.1 dX8_threats_61 rfl (lv_at hl 0 rfl) ?_
                  refine lv_iload_n S.1 S.2.1 dX8_threats_62 rfl (lv_at hl 1 rfl) ?_
                  refine R_cVi (As := [.int x1_13]) (rest := [.int v_30]) S (c_X8_free (h12 := h12)  hf) gX8_threats_X8_free rfl yk_X8_free ⟨⟨Nat.le_of_ble_eq_true rfl, Nat.le_of_ble_eq_true rfl⟩, rfl, rfl⟩ hK hP hD hS hX hA (h12 0 (by decide)) (cF_m E _ _ 0) rfl rfl hl.1 rfl (Nat.le_of_ble_eq_true rfl) ⟨Nat.zero_le _, Nat.zero_le _⟩ dX8_threats_63 (fun v_33 I_31 J_32 H locs hf hP hD hS => ?_)
                  refine lv_icmp_ne (tgt := 75) S.1 S.2.1 dX8_threats_66 (by decide) (fun h_34 => ?_) (fun h_34 => ?_)
                  · have hf := hf.2 h_34
                    refine nm_o hf (fun x4_35 ex4_35 hf => ?_)
                    refine lv_iinc (v := x4_35) (lv' := [(4, .int x4_35), (0, .ref (eA E 12 0)), (1, .int x1_13), (2, .int x2_14), (3, .int x3_15)]) S.1 S.2.1 dX8_threats_75 hl (k := 4) rfl (by rw [ex4_35]; rfl) (by decide) rfl (fun ls hl => ?_)
                    refine lv_goto (tgt := 32) S.1 S.2.1 dX8_threats_78 (by decide) ?_
                    exact ih32 _ _ _ _ hf _ _ _ hP hD hS (lv_sub hl [1, 2, 3, 4, 0] rfl)
                  · have hf := hf.1 h_34
                    refine lv_iload_n S.1 S.2.1 dX8_threats_69 rfl (lv_at hl 2 rfl) ?_
                    refine lv_iconst (v := 1) S.1 S.2.1 dX8_threats_70 rfl ?_
                    refine lv_iload_n S.1 S.2.1 dX8_threats_71 rfl (lv_at hl 3 rfl) ?_
                    refine lv_ishl S.1 S.2.1 dX8_threats_72 ?_
                    refine lv_ior S.1 S.2.1 dX8_threats_73 ?_
                    refine lv_topi (fun x2_36 ex2_36 => ?_)
                    have hf := hf x2_36 ex2_36
                    refine lv_istore_n (lv' := [(2, .int x2_36), (0, .ref (eA E 12 0)), (1, .int x1_13), (3, .int x3_15), (4, .int x4_16)]) S.1 S.2.1 dX8_threats_74 rfl hl (by decide) rfl (fun ls hl => ?_)
                    refine nm_o hf (fun x4_37 ex4_37 hf => ?_)
                    refine lv_iinc (v := x4_37) (lv' := [(4, .int x4_37), (2, .int x2_36), (0, .ref (eA E 12 0)), (1, .int x1_13), (3, .int x3_15)]) S.1 S.2.1 dX8_threats_75 hl (k := 4) rfl (by rw [ex4_37]; rfl) (by decide) rfl (fun ls hl => ?_)
                    refine lv_goto (tgt := 32) S.1 S.2.1 dX8_threats_78 (by decide) ?_
                    exact ih32 _ _ _ _ hf _ _ _ hP hD hS (lv_sub hl [2, 3, 1, 4, 0] rfl)
          refine L32 _ _ _ (fun x2_38 I_39 J_40 hf H locs ls hP hD hS hl => ?_)  n_42 _ _ _ _ hf _ _ _ hP hD hS (lv_sub hl [1, 2, 3, 4, 0] rfl)
          refine nm_o hf (fun x3_41 ex3_41 hf => ?_)
          refine lv_iinc (v := x3_41) (lv' := [(3, .int x3_41), (0, .ref (eA E 12 0)), (1, .int x1_6), (2, .int x2_38)]) S.1 S.2.1 dX8_threats_81 hl (k := 3) rfl (by rw [ex3_41]; rfl) (by decide) rfl (fun ls hl => ?_)
          refine lv_goto (tgt := 19) S.1 S.2.1 dX8_threats_84 (by decide) ?_
          exact ih19 _ _ _ _ hf _ _ _ hP hD hS (lv_sub hl [1, 2, 3, 0] rfl)
    refine L19 _ _ (fun x2_43 I_44 J_45 hf H locs ls hP hD hS hl => ?_)  n_46 _ _ _ _ hf _ _ _ hP hD hS (lv_sub hl [2, 3, 1, 0] rfl)
    refine lv_iload_n S.1 S.2.1 dX8_threats_87 rfl (lv_at hl 0 rfl) ?_
    exact hret hf rfl hP hD hS dX8_threats_88
  · have hf := hf.2 h_5
    refine lv_iconst (v := 0) S.1 S.2.1 dX8_threats_13 rfl ?_
    exact hret hf rfl hP hD hS dX8_threats_14
