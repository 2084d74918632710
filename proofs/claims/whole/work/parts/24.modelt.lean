abbrev rmX8_toldRow : Room := { frames := 3, cells := 0, slots := 0, locals := 63 }
theorem yk_X8_toldRow : yOk yX8_toldRow RX8 2 := by unfold yOk; decide +kernel
def f_X8_toldRow (x1 : Int32) (x2 : Int32) (I : MI) (J : MJ) (Q : Int32 → MI → MJ → Prop) : Prop :=
  ((x2 = (0 : Int32) → f_X8_ofRow x1 (0 : Int32) I J (fun (v_15 : Int32) (I_13 : MI) (J_14 : MJ) => Q v_15 I_13 J_14)) ∧ (¬ x2 = (0 : Int32) → ((x2 = (1 : Int32) → f_X8_free x1 I J (fun (v_12 : Int32) (I_10 : MI) (J_11 : MJ) => Q v_12 I_10 J_11)) ∧ (¬ x2 = (1 : Int32) → ((x2 = (2 : Int32) → f_X8_ofRow x1 (2 : Int32) I J (fun (v_9 : Int32) (I_7 : MI) (J_8 : MJ) => Q v_9 I_7 J_8)) ∧ (¬ x2 = (2 : Int32) → f_X8_ofRow x1 (3 : Int32) I J (fun (v_6 : Int32) (I_4 : MI) (J_5 : MJ) => Q v_6 I_4 J_5)))))))
set_option maxRecDepth 100000 in
set_option maxHeartbeats 4000000 in
theorem c_X8_toldRow {l : Launch} {E : EV} {ps : List (Nat × Nat)} (h12 : ∀ r, r < 17 → (12, r) ∈ ps) {x1 : Int32} {x2 : Int32} {I : MI} {J : MJ} {Q : Int32 → MI → MJ → Prop} (hf : f_X8_toldRow x1 x2 I J Q) : KI l yX8_toldRow wsX8_toldRow rmX8_toldRow E ps [.ref (eA E 12 0), .int x1, .int x2] I J Q := by
  refine K_ofI (cc := cX8_toldRow) (maxL := 3) (ty := .int) (by decide +kernel) rfl (Nat.le_of_ble_eq_true rfl) (fun p e s m args below meth c Qm hret S hK hX => ?_)
  have hA : ∀ q, s.heap.size ≤ q → AA E ps s.heap.size q := fun _ h => Or.inr h
  intro H locs ls hP hD hS hl
  unfold f_X8_toldRow at hf
  refine lv_iload_n S.1 S.2.1 dX8_toldRow_0 rfl (lv_at hl 2 rfl) ?_
  refine lv_if_ne (tgt := 13) S.1 S.2.1 dX8_toldRow_1 (by decide) (fun h_1 => ?_) (fun h_1 => ?_)
  · have hf := hf.2 h_1
    refine lv_iload_n S.1 S.2.1 dX8_toldRow_13 rfl (lv_at hl 2 rfl) ?_
    refine lv_iconst (v := 1) S.1 S.2.1 dX8_toldRow_14 rfl ?_
    refine lv_icmp_ne (tgt := 26) S.1 S.2.1 dX8_toldRow_15 (by decide) (fun h_2 => ?_) (fun h_2 => ?_)
    · have hf := hf.2 h_2
      refine lv_iload_n S.1 S.2.1 dX8_toldRow_26 rfl (lv_at hl 2 rfl) ?_
      refine lv_iconst (v := 2) S.1 S.2.1 dX8_toldRow_27 rfl ?_
      refine lv_icmp_ne (tgt := 40) S.1 S.2.1 dX8_toldRow_28 (by decide) (fun h_3 => ?_) (fun h_3 => ?_)
      · have hf := hf.2 h_3
        refine lv_aload_n S.1 S.2.1 dX8_toldRow_40 rfl (lv_at hl 0 rfl) ?_
        refine lv_iload_n S.1 S.2.1 dX8_toldRow_41 rfl (lv_at hl 1 rfl) ?_
        refine lv_iconst (v := 3) S.1 S.2.1 dX8_toldRow_42 rfl ?_
        refine R_cVi (As := [.int x1, .int (3 : Int32)]) (rest := []) S (c_X8_ofRow (h12 := h12)  hf) gX8_toldRow_X8_ofRow rfl yk_X8_ofRow ⟨⟨Nat.le_of_ble_eq_true rfl, Nat.le_of_ble_eq_true rfl⟩, rfl, rfl⟩ hK hP hD hS hX hA (h12 0 (by decide)) (cF_m E _ _ 0) rfl rfl hl.1 rfl (Nat.le_of_ble_eq_true rfl) ⟨Nat.zero_le _, Nat.zero_le _⟩ dX8_toldRow_43 (fun v_6 I_4 J_5 H locs hf hP hD hS => ?_)
        exact hret hf rfl hP hD hS dX8_toldRow_46
      · have hf := hf.1 h_3
        refine lv_aload_n S.1 S.2.1 dX8_toldRow_31 rfl (lv_at hl 0 rfl) ?_
        refine lv_iload_n S.1 S.2.1 dX8_toldRow_32 rfl (lv_at hl 1 rfl) ?_
        refine lv_iconst (v := 2) S.1 S.2.1 dX8_toldRow_33 rfl ?_
        refine R_cVi (As := [.int x1, .int (2 : Int32)]) (rest := []) S (c_X8_ofRow (h12 := h12)  hf) gX8_toldRow_X8_ofRow rfl yk_X8_ofRow ⟨⟨Nat.le_of_ble_eq_true rfl, Nat.le_of_ble_eq_true rfl⟩, rfl, rfl⟩ hK hP hD hS hX hA (h12 0 (by decide)) (cF_m E _ _ 0) rfl rfl hl.1 rfl (Nat.le_of_ble_eq_true rfl) ⟨Nat.zero_le _, Nat.zero_le _⟩ dX8_toldRow_34 (fun v_9 I_7 J_8 H locs hf hP hD hS => ?_)
        refine lv_goto (tgt := 46) S.1 S.2.1 dX8_toldRow_37 (by decide) ?_
        exact hret hf rfl hP hD hS dX8_toldRow_46
    · have hf := hf.1 h_2
      refine lv_aload_n S.1 S.2.1 dX8_toldRow_18 rfl (lv_at hl 0 rfl) ?_
      refine lv_iload_n S.1 S.2.1 dX8_toldRow_19 rfl (lv_at hl 1 rfl) ?_
      refine R_cVi (As := [.int x1]) (rest := []) S (c_X8_free (h12 := h12)  hf) gX8_toldRow_X8_free rfl yk_X8_free ⟨⟨Nat.le_of_ble_eq_true rfl, Nat.le_of_ble_eq_true rfl⟩, rfl, rfl⟩ hK hP hD hS hX hA (h12 0 (by decide)) (cF_m E _ _ 0) rfl rfl hl.1 rfl (Nat.le_of_ble_eq_true rfl) ⟨Nat.zero_le _, Nat.zero_le _⟩ dX8_toldRow_20 (fun v_12 I_10 J_11 H locs hf hP hD hS => ?_)
      refine lv_goto (tgt := 46) S.1 S.2.1 dX8_toldRow_23 (by decide) ?_
      exact hret hf rfl hP hD hS dX8_toldRow_46
  · have hf := hf.1 h_1
    refine lv_aload_n S.1 S.2.1 dX8_toldRow_4 rfl (lv_at hl 0 rfl) ?_
    refine lv_iload_n S.1 S.2.1 dX8_toldRow_5 rfl (lv_at hl 1 rfl) ?_
    refine lv_iconst (v := 0) S.1 S.2.1 dX8_toldRow_6 rfl ?_
    refine R_cVi (As := [.int x1, .int (0 : Int32)]) (rest := []) S (c_X8_ofRow (h12 := h12)  hf) gX8_toldRow_X8_ofRow rfl yk_X8_ofRow ⟨⟨Nat.le_of_ble_eq_true rfl, Nat.le_of_ble_eq_true rfl⟩, rfl, rfl⟩ hK hP hD hS hX hA (h12 0 (by decide)) (cF_m E _ _ 0) rfl rfl hl.1 rfl (Nat.le_of_ble_eq_true rfl) ⟨Nat.zero_le _, Nat.zero_le _⟩ dX8_toldRow_7 (fun v_15 I_13 J_14 H locs hf hP hD hS => ?_)
    refine lv_goto (tgt := 46) S.1 S.2.1 dX8_toldRow_10 (by decide) ?_
    exact hret hf rfl hP hD hS dX8_toldRow_46
abbrev rmX8_row : Room := { frames := 4, cells := 0, slots := 0, locals := 85 }
theorem yk_X8_row : yOk yX8_row RX8 2 := by unfold yOk; decide +kernel
def f_X8_row_J28 (Q : Int32 → MI → MJ → Prop) (x1_10 : Int32) (x2_11 : Int32) (s_12 : Int32) (I_13 : MI) (J_14 : MJ) : Prop :=
  f_X8_fails s_12 (2 : Int32) I_13 J_14 (fun (v_17 : Int32) (I_15 : MI) (J_16 : MJ) => ((v_17 = (0 : Int32) → f_X8_toldRow x1_10 x2_11 I_15 J_16 (fun (v_21 : Int32) (I_19 : MI) (J_20 : MJ) => Q v_21 I_19 J_20)) ∧ (¬ v_17 = (0 : Int32) → Q (0 : Int32) I_15 J_16)))
def f_X8_row (x1 : Int32) (x2 : Int32) (I : MI) (J : MJ) (Q : Int32 → MI → MJ → Prop) : Prop :=
  ∀ I_1 : MI, I_1 = sI I 12 0 0 (0 : Int32) → f_X8_noRow x1 I_1 J (fun (v_4 : Int32) (I_2 : MI) (J_3 : MJ) => ((v_4 = (0 : Int32) → f_X8_in x2 (0 : Int32) (3 : Int32) I_2 J_3 (fun (v_8 : Int32) (I_6 : MI) (J_7 : MJ) => ((v_8 = (0 : Int32) → f_X8_row_J28 Q x1 x2 (1 : Int32) I_6 J_7) ∧ (¬ v_8 = (0 : Int32) → f_X8_row_J28 Q x1 x2 (0 : Int32) I_6 J_7)))) ∧ (¬ v_4 = (0 : Int32) → Q (0 : Int32) I_2 J_3)))
set_option maxRecDepth 100000 in
set_option maxHeartbeats 4000000 in
theorem c_X8_row {l : Launch} {E : EV} {ps : List (Nat × Nat)} (h12 : ∀ r, r < 17 → (12, r) ∈ ps) {x1 : Int32} {x2 : Int32} {I : MI} {J : MJ} {Q : Int32 → MI → MJ → Prop} (hf : f_X8_row x1 x2 I J Q) : KI l yX8_row wsX8_row rmX8_row E ps [.ref (eA E 12 0), .int x1, .int x2] I J Q := by
  refine K_ofI (cc := cX8_row) (maxL := 3) (ty := .int) (by decide +kernel) rfl (Nat.le_of_ble_eq_true rfl) (fun p e s m args below meth c Qm hret S hK hX => ?_)
  have hA : ∀ q, s.heap.size ≤ q → AA E ps s.heap.size q := fun _ h => Or.inr h
  have k1 := S.2.2.2.2 (.fieldLink RX8 49 "RhymeRoofsModel" "thrown" "I") (by decide +kernel)
  have iX8 : ∀ w ∈ wsX80, w ∈ wsX8_row := fun _ h => List.mem_cons_of_mem _ (List.mem_append_right _ h)
  have jn28 : ∀ (x1_10 : Int32) (x2_11 : Int32) (s_12 : Int32) (I_13 : MI) (J_14 : MJ), f_X8_row_J28 Q x1_10 x2_11 s_12 I_13 J_14 → Wj p l e (rmX8_row) s m args below meth c Qm E ps 3 I_13 J_14 28 [(0, .ref (eA E 12 0)), (1, .int x1_10), (2, .int x2_11)] [.int s_12, .ref (eA E 12 0)] := by
    intro x1_10 x2_11 s_12 I_13 J_14 hf H locs ls hP hD hS hl
    unfold f_X8_row_J28 at hf
    refine lv_iconst (v := 2) S.1 S.2.1 dX8_row_28 rfl ?_
    refine R_cVi (As := [.int s_12, .int (2 : Int32)]) (rest := []) S (c_X8_fails (h12 := h12)  hf) gX8_row_X8_fails rfl yk_X8_fails ⟨⟨Nat.le_of_ble_eq_true rfl, Nat.le_of_ble_eq_true rfl⟩, rfl, rfl⟩ hK hP hD hS hX hA (h12 0 (by decide)) (cF_m E _ _ 0) rfl rfl hl.1 rfl (Nat.le_of_ble_eq_true rfl) ⟨Nat.zero_le _, Nat.zero_le _⟩ dX8_row_29 (fun v_17 I_15 J_16 H locs hf hP hD hS => ?_)
    refine lv_if_eq (tgt := 39) S.1 S.2.1 dX8_row_32 (by decide) (fun h_18 => ?_) (fun h_18 => ?_)
    · have hf := hf.1 h_18
      refine lv_aload_n S.1 S.2.1 dX8_row_39 rfl (lv_at hl 0 rfl) ?_
      refine lv_iload_n S.1 S.2.1 dX8_row_40 rfl (lv_at hl 1 rfl) ?_
      refine lv_iload_n S.1 S.2.1 dX8_row_41 rfl (lv_at hl 2 rfl) ?_
      refine R_cVi (As := [.int x1_10, .int x2_11]) (rest := []) S (c_X8_toldRow (h12 := h12)  hf) gX8_row_X8_toldRow rfl yk_X8_toldRow ⟨⟨Nat.le_of_ble_eq_true rfl, Nat.le_of_ble_eq_true rfl⟩, rfl, rfl⟩ hK hP hD hS hX hA (h12 0 (by decide)) (cF_m E _ _ 0) rfl rfl hl.1 rfl (Nat.le_of_ble_eq_true rfl) ⟨Nat.zero_le _, Nat.zero_le _⟩ dX8_row_42 (fun v_21 I_19 J_20 H locs hf hP hD hS => ?_)
      exact hret hf rfl hP hD hS dX8_row_45
    · have hf := hf.2 h_18
      refine lv_iconst (v := 0) S.1 S.2.1 dX8_row_35 rfl ?_
      refine lv_goto (tgt := 45) S.1 S.2.1 dX8_row_36 (by decide) ?_
      exact hret hf rfl hP hD hS dX8_row_45
  intro H locs ls hP hD hS hl
  unfold f_X8_row at hf
  refine lv_aload_n S.1 S.2.1 dX8_row_0 rfl (lv_at hl 0 rfl) ?_
  refine lv_iconst (v := 0) S.1 S.2.1 dX8_row_1 rfl ?_
  refine nm_o hf (fun I_1 eI_1 hf => ?_)
  refine pfX8_0 S iX8 hK hP hD hS (h12 0 (by decide)) k1 dX8_row_2 eI_1 (fun H locs hP hD hS => ?_)
  refine lv_aload_n S.1 S.2.1 dX8_row_5 rfl (lv_at hl 0 rfl) ?_
  refine lv_iload_n S.1 S.2.1 dX8_row_6 rfl (lv_at hl 1 rfl) ?_
  refine R_cVi (As := [.int x1]) (rest := []) S (c_X8_noRow (h12 := h12)  hf) gX8_row_X8_noRow rfl yk_X8_noRow ⟨⟨Nat.le_of_ble_eq_true rfl, Nat.le_of_ble_eq_true rfl⟩, rfl, rfl⟩ hK hP hD hS hX hA (h12 0 (by decide)) (cF_m E _ _ 0) rfl rfl hl.1 rfl (Nat.le_of_ble_eq_true rfl) ⟨Nat.zero_le _, Nat.zero_le _⟩ dX8_row_7 (fun v_4 I_2 J_3 H locs hf hP hD hS => ?_)
  refine lv_if_ne (tgt := 35) S.1 S.2.1 dX8_row_10 (by decide) (fun h_5 => ?_) (fun h_5 => ?_)
  · have hf := hf.2 h_5
    refine lv_iconst (v := 0) S.1 S.2.1 dX8_row_35 rfl ?_
    refine lv_goto (tgt := 45) S.1 S.2.1 dX8_row_36 (by decide) ?_
    exact hret hf rfl hP hD hS dX8_row_45
  · have hf := hf.1 h_5
    refine lv_aload_n S.1 S.2.1 dX8_row_13 rfl (lv_at hl 0 rfl) ?_
    refine lv_iload_n S.1 S.2.1 dX8_row_14 rfl (lv_at hl 2 rfl) ?_
    refine lv_iconst (v := 0) S.1 S.2.1 dX8_row_15 rfl ?_
    refine lv_iconst (v := 3) S.1 S.2.1 dX8_row_16 rfl ?_
    refine R_cSi (As := [.int x2, .int (0 : Int32), .int (3 : Int32)]) (rest := [.ref (eA E 12 0)]) S (c_X8_in   hf) gX8_row_X8_in rfl yk_X8_in ⟨⟨Nat.le_of_ble_eq_true rfl, Nat.le_of_ble_eq_true rfl⟩, rfl, rfl⟩ hK hP hD hS hX hA rfl hl.1 rfl (Nat.le_of_ble_eq_true rfl) ⟨Nat.zero_le _, Nat.zero_le _⟩ dX8_row_17 (fun v_8 I_6 J_7 H locs hf hP hD hS => ?_)
    refine lv_if_ne (tgt := 27) S.1 S.2.1 dX8_row_20 (by decide) (fun h_9 => ?_) (fun h_9 => ?_)
    · have hf := hf.2 h_9
      refine lv_iconst (v := 0) S.1 S.2.1 dX8_row_27 rfl ?_
      exact jn28 _ _ _ _ _ hf _ _ _ hP hD hS (lv_sub hl [0, 1, 2] rfl)
    · have hf := hf.1 h_9
      refine lv_iconst (v := 1) S.1 S.2.1 dX8_row_23 rfl ?_
      refine lv_goto (tgt := 28) S.1 S.2.1 dX8_row_24 (by decide) ?_
      exact jn28 _ _ _ _ _ hf _ _ _ hP hD hS (lv_sub hl [0, 1, 2] rfl)
abbrev rmX8_toldTile : Room := { frames := 2, cells := 0, slots := 0, locals := 42 }
theorem yk_X8_toldTile : yOk yX8_toldTile RX8 2 := by unfold yOk; decide +kernel
def f_X8_toldTile (x1 : Int32) (x2 : Int32) (I : MI) (J : MJ) (Q : Int32 → MI → MJ → Prop) : Prop :=
  f_X8_ofRow x1 (1 : Int32) I J (fun (v_3 : Int32) (I_1 : MI) (J_2 : MJ) => ((v_3 ≤ x2 → Q (-1 : Int32) I_1 J_2) ∧ (¬ v_3 ≤ x2 → f_X8_ofRow x1 ((5 : Int32) + x2) I_1 J_2 (fun (v_7 : Int32) (I_5 : MI) (J_6 : MJ) => Q v_7 I_5 J_6))))
set_option maxRecDepth 100000 in
set_option maxHeartbeats 4000000 in
theorem c_X8_toldTile {l : Launch} {E : EV} {ps : List (Nat × Nat)} (h12 : ∀ r, r < 17 → (12, r) ∈ ps) {x1 : Int32} {x2 : Int32} {I : MI} {J : MJ} {Q : Int32 → MI → MJ → Prop} (hf : f_X8_toldTile x1 x2 I J Q) : KI l yX8_toldTile wsX8_toldTile rmX8_toldTile E ps [.ref (eA E 12 0), .int x1, .int x2] I J Q := by
  refine K_ofI (cc := cX8_toldTile) (maxL := 3) (ty := .int) (by decide +kernel) rfl (Nat.le_of_ble_eq_true rfl) (fun p e s m args below meth c Qm hret S hK hX => ?_)
  have hA : ∀ q, s.heap.size ≤ q → AA E ps s.heap.size q := fun _ h => Or.inr h
  intro H locs ls hP hD hS hl
  unfold f_X8_toldTile at hf
  refine lv_iload_n S.1 S.2.1 dX8_toldTile_0 rfl (lv_at hl 2 rfl) ?_
  refine lv_aload_n S.1 S.2.1 dX8_toldTile_1 rfl (lv_at hl 0 rfl) ?_
  refine lv_iload_n S.1 S.2.1 dX8_toldTile_2 rfl (lv_at hl 1 rfl) ?_
  refine lv_iconst (v := 1) S.1 S.2.1 dX8_toldTile_3 rfl ?_
  refine R_cVi (As := [.int x1, .int (1 : Int32)]) (rest := [.int x2]) S (c_X8_ofRow (h12 := h12)  hf) gX8_toldTile_X8_ofRow rfl yk_X8_ofRow ⟨⟨Nat.le_of_ble_eq_true rfl, Nat.le_of_ble_eq_true rfl⟩, rfl, rfl⟩ hK hP hD hS hX hA (h12 0 (by decide)) (cF_m E _ _ 0) rfl rfl hl.1 rfl (Nat.le_of_ble_eq_true rfl) ⟨Nat.zero_le _, Nat.zero_le _⟩ dX8_toldTile_4 (fun v_3 I_1 J_2 H locs hf hP hD hS => ?_)
  refine lv_icmp_ge (tgt := 21) S.1 S.2.1 dX8_toldTile_7 (by decide) (fun h_4 => ?_) (fun h_4 => ?_)
  · have hf := hf.1 h_4
    refine lv_iconst (v := (-1)) S.1 S.2.1 dX8_toldTile_21 rfl ?_
    exact hret hf rfl hP hD hS dX8_toldTile_22
  · have hf := hf.2 h_4
    refine lv_aload_n S.1 S.2.1 dX8_toldTile_10 rfl (lv_at hl 0 rfl) ?_
    refine lv_iload_n S.1 S.2.1 dX8_toldTile_11 rfl (lv_at hl 1 rfl) ?_
    refine lv_iconst (v := 5) S.1 S.2.1 dX8_toldTile_12 rfl ?_
    refine lv_iload_n S.1 S.2.1 dX8_toldTile_13 rfl (lv_at hl 2 rfl) ?_
    refine lv_iadd S.1 S.2.1 dX8_toldTile_14 ?_
    refine R_cVi (As := [.int x1, .int ((5 : Int32) + x2)]) (rest := []) S (c_X8_ofRow (h12 := h12)  hf) gX8_toldTile_X8_ofRow rfl yk_X8_ofRow ⟨⟨Nat.le_of_ble_eq_true rfl, Nat.le_of_ble_eq_true rfl⟩, rfl, rfl⟩ hK hP hD hS hX hA (h12 0 (by decide)) (cF_m E _ _ 0) rfl rfl hl.1 rfl (Nat.le_of_ble_eq_true rfl) ⟨Nat.zero_le _, Nat.zero_le _⟩ dX8_toldTile_15 (fun v_7 I_5 J_6 H locs hf hP hD hS => ?_)
    refine lv_goto (tgt := 22) S.1 S.2.1 dX8_toldTile_18 (by decide) ?_
    exact hret hf rfl hP hD hS dX8_toldTile_22
abbrev rmX8_tile : Room := { frames := 3, cells := 0, slots := 0, locals := 64 }
theorem yk_X8_tile : yOk yX8_tile RX8 2 := by unfold yOk; decide +kernel
def f_X8_tile_J35 (Q : Int32 → MI → MJ → Prop) (x1_13 : Int32) (x2_14 : Int32) (s_15 : Int32) (I_16 : MI) (J_17 : MJ) : Prop :=
  f_X8_fails s_15 (2 : Int32) I_16 J_17 (fun (v_20 : Int32) (I_18 : MI) (J_19 : MJ) => ((v_20 = (0 : Int32) → f_X8_toldTile x1_13 x2_14 I_18 J_19 (fun (v_24 : Int32) (I_22 : MI) (J_23 : MJ) => Q v_24 I_22 J_23)) ∧ (¬ v_20 = (0 : Int32) → Q (0 : Int32) I_18 J_19)))
def f_X8_tile (x1 : Int32) (x2 : Int32) (I : MI) (J : MJ) (Q : Int32 → MI → MJ → Prop) : Prop :=
  ∀ I_1 : MI, I_1 = sI I 12 0 0 (0 : Int32) → f_X8_noRow x1 I_1 J (fun (v_4 : Int32) (I_2 : MI) (J_3 : MJ) => ((v_4 = (0 : Int32) → f_X8_ofRow x1 (0 : Int32) I_2 J_3 (fun (v_8 : Int32) (I_6 : MI) (J_7 : MJ) => f_X8_in x2 (0 : Int32) (v_8 - (1 : Int32)) I_6 J_7 (fun (v_11 : Int32) (I_9 : MI) (J_10 : MJ) => ((v_11 = (0 : Int32) → f_X8_tile_J35 Q x1 x2 (1 : Int32) I_9 J_10) ∧ (¬ v_11 = (0 : Int32) → f_X8_tile_J35 Q x1 x2 (0 : Int32) I_9 J_10))))) ∧ (¬ v_4 = (0 : Int32) → Q (0 : Int32) I_2 J_3)))
set_option maxRecDepth 100000 in
set_option maxHeartbeats 4000000 in
theorem c_X8_tile {l : Launch} {E : EV} {ps : List (Nat × Nat)} (h12 : ∀ r, r < 17 → (12, r) ∈ ps) {x1 : Int32} {x2 : Int32} {I : MI} {J : MJ} {Q : Int32 → MI → MJ → Prop} (hf : f_X8_tile x1 x2 I J Q) : KI l yX8_tile wsX8_tile rmX8_tile E ps [.ref (eA E 12 0), .int x1, .int x2] I J Q := by
  refine K_ofI (cc := cX8_tile) (maxL := 3) (ty := .int) (by decide +kernel) rfl (Nat.le_of_ble_eq_true rfl) (fun p e s m args below meth c Qm hret S hK hX => ?_)
  have hA : ∀ q, s.heap.size ≤ q → AA E ps s.heap.size q := fun _ h => Or.inr h
  have k1 := S.2.2.2.2 (.fieldLink RX8 49 "RhymeRoofsModel" "thrown" "I") (by decide +kernel)
  have iX8 : ∀ w ∈ wsX80, w ∈ wsX8_tile := fun _ h => List.mem_cons_of_mem _ (List.mem_append_right _ h)
  have jn35 : ∀ (x1_13 : Int32) (x2_14 : Int32) (s_15 : Int32) (I_16 : MI) (J_17 : MJ), f_X8_tile_J35 Q x1_13 x2_14 s_15 I_16 J_17 → Wj p l e (rmX8_tile) s m args below meth c Qm E ps 3 I_16 J_17 35 [(0, .ref (eA E 12 0)), (1, .int x1_13), (2, .int x2_14)] [.int s_15, .ref (eA E 12 0)] := by
    intro x1_13 x2_14 s_15 I_16 J_17 hf H locs ls hP hD hS hl
    unfold f_X8_tile_J35 at hf
    refine lv_iconst (v := 2) S.1 S.2.1 dX8_tile_35 rfl ?_
    refine R_cVi (As := [.int s_15, .int (2 : Int32)]) (rest := []) S (c_X8_fails (h12 := h12)  hf) gX8_tile_X8_fails rfl yk_X8_fails ⟨⟨Nat.le_of_ble_eq_true rfl, Nat.le_of_ble_eq_true rfl⟩, rfl, rfl⟩ hK hP hD hS hX hA (h12 0 (by decide)) (cF_m E _ _ 0) rfl rfl hl.1 rfl (Nat.le_of_ble_eq_true rfl) ⟨Nat.zero_le _, Nat.zero_le _⟩ dX8_tile_36 (fun v_20 I_18 J_19 H locs hf hP hD hS => ?_)
    refine lv_if_eq (tgt := 46) S.1 S.2.1 dX8_tile_39 (by decide) (fun h_21 => ?_) (fun h_21 => ?_)
    · have hf := hf.1 h_21
      refine lv_aload_n S.1 S.2.1 dX8_tile_46 rfl (lv_at hl 0 rfl) ?_
      refine lv_iload_n S.1 S.2.1 dX8_tile_47 rfl (lv_at hl 1 rfl) ?_
      refine lv_iload_n S.1 S.2.1 dX8_tile_48 rfl (lv_at hl 2 rfl) ?_
      refine R_cVi (As := [.int x1_13, .int x2_14]) (rest := []) S (c_X8_toldTile (h12 := h12)  hf) gX8_tile_X8_toldTile rfl yk_X8_toldTile ⟨⟨Nat.le_of_ble_eq_true rfl, Nat.le_of_ble_eq_true rfl⟩, rfl, rfl⟩ hK hP hD hS hX hA (h12 0 (by decide)) (cF_m E _ _ 0) rfl rfl hl.1 rfl (Nat.le_of_ble_eq_true rfl) ⟨Nat.zero_le _, Nat.zero_le _⟩ dX8_tile_49 (fun v_24 I_22 J_23 H locs hf hP hD hS => ?_)
      exact hret hf rfl hP hD hS dX8_tile_52
    · have hf := hf.2 h_21
      refine lv_iconst (v := 0) S.1 S.2.1 dX8_tile_42 rfl ?_
      refine lv_goto (tgt := 52) S.1 S.2.1 dX8_tile_43 (by decide) ?_
      exact hret hf rfl hP hD hS dX8_tile_52
  intro H locs ls hP hD hS hl
  unfold f_X8_tile at hf
  refine lv_aload_n S.1 S.2.1 dX8_tile_0 rfl (lv_at hl 0 rfl) ?_
  refine lv_iconst (v := 0) S.1 S.2.1 dX8_tile_1 rfl ?_
  refine nm_o hf (fun I_1 eI_1 hf => ?_)
  refine pfX8_0 S iX8 hK hP hD hS (h12 0 (by decide)) k1 dX8_tile_2 eI_1 (fun H locs hP hD hS => ?_)
  refine lv_aload_n S.1 S.2.1 dX8_tile_5 rfl (lv_at hl 0 rfl) ?_
  refine lv_iload_n S.1 S.2.1 dX8_tile_6 rfl (lv_at hl 1 rfl) ?_
  refine R_cVi (As := [.int x1]) (rest := []) S (c_X8_noRow (h12 := h12)  hf) gX8_tile_X8_noRow rfl yk_X8_noRow ⟨⟨Nat.le_of_ble_eq_true rfl, Nat.le_of_ble_eq_true rfl⟩, rfl, rfl⟩ hK hP hD hS hX hA (h12 0 (by decide)) (cF_m E _ _ 0) rfl rfl hl.1 rfl (Nat.le_of_ble_eq_true rfl) ⟨Nat.zero_le _, Nat.zero_le _⟩ dX8_tile_7 (fun v_4 I_2 J_3 H locs hf hP hD hS => ?_)
  refine lv_if_ne (tgt := 42) S.1 S.2.1 dX8_tile_10 (by decide) (fun h_5 => ?_) (fun h_5 => ?_)
  · have hf := hf.2 h_5
    refine lv_iconst (v := 0) S.1 S.2.1 dX8_tile_42 rfl ?_
    refine lv_goto (tgt := 52) S.1 S.2.1 dX8_tile_43 (by decide) ?_
    exact hret hf rfl hP hD hS dX8_tile_52
  · have hf := hf.1 h_5
    refine lv_aload_n S.1 S.2.1 dX8_tile_13 rfl (lv_at hl 0 rfl) ?_
    refine lv_iload_n S.1 S.2.1 dX8_tile_14 rfl (lv_at hl 2 rfl) ?_
    refine lv_iconst (v := 0) S.1 S.2.1 dX8_tile_15 rfl ?_
    refine lv_aload_n S.1 S.2.1 dX8_tile_16 rfl (lv_at hl 0 rfl) ?_
    refine lv_iload_n S.1 S.2.1 dX8_tile_17 rfl (lv_at hl 1 rfl) ?_
    refine lv_iconst (v := 0) S.1 S.2.1 dX8_tile_18 rfl ?_
    refine R_cVi (As := [.int x1, .int (0 : Int32)]) (rest := [.int (0 : Int32), .int x2, .ref (eA E 12 0)]) S (c_X8_ofRow (h12 := h12)  hf) gX8_tile_X8_ofRow rfl yk_X8_ofRow ⟨⟨Nat.le_of_ble_eq_true rfl, Nat.le_of_ble_eq_true rfl⟩, rfl, rfl⟩ hK hP hD hS hX hA (h12 0 (by decide)) (cF_m E _ _ 0) rfl rfl hl.1 rfl (Nat.le_of_ble_eq_true rfl) ⟨Nat.zero_le _, Nat.zero_le _⟩ dX8_tile_19 (fun v_8 I_6 J_7 H locs hf hP hD hS => ?_)
    refine lv_iconst (v := 1) S.1 S.2.1 dX8_tile_22 rfl ?_
    refine lv_isub S.1 S.2.1 dX8_tile_23 ?_
    refine R_cSi (As := [.int x2, .int (0 : Int32), .int (v_8 - (1 : Int32))]) (rest := [.ref (eA E 12 0)]) S (c_X8_in   hf) gX8_tile_X8_in rfl yk_X8_in ⟨⟨Nat.le_of_ble_eq_true rfl, Nat.le_of_ble_eq_true rfl⟩, rfl, rfl⟩ hK hP hD hS hX hA rfl hl.1 rfl (Nat.le_of_ble_eq_true rfl) ⟨Nat.zero_le _, Nat.zero_le _⟩ dX8_tile_24 (fun v_11 I_9 J_10 H locs hf hP hD hS => ?_)
    refine lv_if_ne (tgt := 34) S.1 S.2.1 dX8_tile_27 (by decide) (fun h_12 => ?_) (fun h_12 => ?_)
    · have hf := hf.2 h_12
      refine lv_iconst (v := 0) S.1 S.2.1 dX8_tile_34 rfl ?_
      exact jn35 _ _ _ _ _ hf _ _ _ hP hD hS (lv_sub hl [0, 1, 2] rfl)
    · have hf := hf.1 h_12
      refine lv_iconst (v := 1) S.1 S.2.1 dX8_tile_30 rfl ?_
      refine lv_goto (tgt := 35) S.1 S.2.1 dX8_tile_31 (by decide) ?_
      exact jn35 _ _ _ _ _ hf _ _ _ hP hD hS (lv_sub hl [0, 1, 2] rfl)
abbrev rmX8_owned : Room := { frames := 2, cells := 0, slots := 0, locals := 42 }
theorem yk_X8_owned : yOk yX8_owned RX8 1 := by unfold yOk; decide +kernel
def f_X8_owned_B4 (x1_1 : Int32) (K38 : Int32 → MI → MJ → Prop) (rec4 : Int32 → Int32 → MI → MJ → Prop) (x2_2 : Int32) (x3_3 : Int32) (I_4 : MI) (J_5 : MJ) : Prop :=
  (vp_in (0 : Int32) 1802 ∧ (((I_4 12 2 (0 : Int32).toNatClampNeg) ≤ x3_3 → K38 x2_2 I_4 J_5) ∧ (¬ (I_4 12 2 (0 : Int32).toNatClampNeg) ≤ x3_3 → f_X8_ofRow x3_3 (3 : Int32) I_4 J_5 (fun (v_10 : Int32) (I_8 : MI) (J_9 : MJ) => ((v_10 = x1_1 → ∀ x2_14 : Int32, x2_14 = (x2_2 + (1 : Int32)) → ∀ x3_15 : Int32, x3_15 = x3_3 + (1 : Int32) → rec4 x2_14 x3_15 I_8 J_9) ∧ (¬ v_10 = x1_1 → ∀ x2_12 : Int32, x2_12 = (x2_2 + (0 : Int32)) → ∀ x3_13 : Int32, x3_13 = x3_3 + (1 : Int32) → rec4 x2_12 x3_13 I_8 J_9))))))
def f_X8_owned_L4 (x1_1 : Int32) (K38 : Int32 → MI → MJ → Prop) : Nat → Int32 → Int32 → MI → MJ → Prop
  | 0, _, _, _, _ => False
  | n + 1, x2_2, x3_3, I_4, J_5 => f_X8_owned_B4 x1_1 K38 (f_X8_owned_L4 x1_1 K38 n) x2_2 x3_3 I_4 J_5
def f_X8_owned (x1 : Int32) (I : MI) (J : MJ) (Q : Int32 → MI → MJ → Prop) : Prop :=
  ∃ n : Nat, f_X8_owned_L4 x1 (fun (x2_16 : Int32) (I_17 : MI) (J_18 : MJ) => Q x2_16 I_17 J_18) n (0 : Int32) (0 : Int32) I J
set_option maxRecDepth 100000 in
set_option maxHeartbeats 4000000 in
theorem c_X8_owned {l : Launch} {E : EV} {ps : List (Nat × Nat)} (h12 : ∀ r, r < 17 → (12, r) ∈ ps) {x1 : Int32} {I : MI} {J : MJ} {Q : Int32 → MI → MJ → Prop} (hf : f_X8_owned x1 I J Q) : KI l yX8_owned wsX8_owned rmX8_owned E ps [.ref (eA E 12 0), .int x1] I J Q := by
  refine K_ofI (cc := cX8_owned) (maxL := 4) (ty := .int) (by decide +kernel) rfl (Nat.le_of_ble_eq_true rfl) (fun p e s m args below meth c Qm hret S hK hX => ?_)
  have hA : ∀ q, s.heap.size ≤ q → AA E ps s.heap.size q := fun _ h => Or.inr h
  have k1 := S.2.2.2.2 (.fieldLink RX8 17 "RhymeRoofsModel" "data" "[I") (by decide +kernel)
  have iX8 : ∀ w ∈ wsX80, w ∈ wsX8_owned := fun _ h => List.mem_cons_of_mem _ (List.mem_append_right _ h)
  intro H locs ls hP hD hS hl
  unfold f_X8_owned at hf
  refine lv_iconst (v := 0) S.1 S.2.1 dX8_owned_0 rfl ?_
  refine lv_istore_n (lv' := [(2, .int (0 : Int32)), (0, .ref (eA E 12 0)), (1, .int x1)]) S.1 S.2.1 dX8_owned_1 rfl hl (by decide) rfl (fun ls hl => ?_)
  refine lv_iconst (v := 0) S.1 S.2.1 dX8_owned_2 rfl ?_
  refine lv_istore_n (lv' := [(3, .int (0 : Int32)), (2, .int (0 : Int32)), (0, .ref (eA E 12 0)), (1, .int x1)]) S.1 S.2.1 dX8_owned_3 rfl hl (by decide) rfl (fun ls hl => ?_)
  obtain ⟨n_19, hf⟩ := hf
  have L4 : ∀ (x1_1 : Int32), ∀ (K38 : Int32 → MI → MJ → Prop), (∀ (x2_16 : Int32) (I_17 : MI) (J_18 : MJ), K38 x2_16 I_17 J_18 → Wj p l e (rmX8_owned) s m args below meth c Qm E ps 4 I_17 J_18 38 [(2, .int x2_16)] []) → ∀ (n : Nat) (x2_2 : Int32) (x3_3 : Int32) (I_4 : MI) (J_5 : MJ), f_X8_owned_L4 x1_1 K38 n x2_2 x3_3 I_4 J_5 → Wj p l e (rmX8_owned) s m args below meth c Qm E ps 4 I_4 J_5 4 [(0, .ref (eA E 12 0)), (1, .int x1_1), (2, .int x2_2), (3, .int x3_3)] [] := by
    intro x1_1 K38 kx38 n
    induction n with
    | zero => intro x2_2 x3_3 I_4 J_5 hf; exact hf.elim
    | succ n ih4 =>
      intro x2_2 x3_3 I_4 J_5 hf
      have hf : f_X8_owned_B4 x1_1 K38 (f_X8_owned_L4 x1_1 K38 n) x2_2 x3_3 I_4 J_5 := hf
      intro H locs ls hP hD hS hl
      unfold f_X8_owned_B4 at hf
      refine lv_iload_n S.1 S.2.1 dX8_owned_4 rfl (lv_at hl 3 rfl) ?_
      refine lv_aload_n S.1 S.2.1 dX8_owned_5 rfl (lv_at hl 0 rfl) ?_
      refine gfX8_8 S iX8 hK hP (h12 0 (by decide)) k1 dX8_owned_6 ?_
      refine lv_iconst (v := 0) S.1 S.2.1 dX8_owned_9 rfl ?_
      obtain ⟨h_6, hf⟩ := hf
      refine R_iald S.1 S.2.1 hK hP (h12 2 (by decide)) (IAm2 E) h_6 dX8_owned_10 ?_
      refine lv_icmp_ge (tgt := 38) S.1 S.2.1 dX8_owned_11 (by decide) (fun h_7 => ?_) (fun h_7 => ?_)
      · have hf := hf.1 h_7
        exact kx38 _ _ _ hf _ _ _ hP hD hS (lv_sub hl [2] rfl)
      · have hf := hf.2 h_7
        refine lv_iload_n S.1 S.2.1 dX8_owned_14 rfl (lv_at hl 2 rfl) ?_
        refine lv_aload_n S.1 S.2.1 dX8_owned_15 rfl (lv_at hl 0 rfl) ?_
        refine lv_iload_n S.1 S.2.1 dX8_owned_16 rfl (lv_at hl 3 rfl) ?_
        refine lv_iconst (v := 3) S.1 S.2.1 dX8_owned_17 rfl ?_
        refine R_cVi (As := [.int x3_3, .int (3 : Int32)]) (rest := [.int x2_2]) S (c_X8_ofRow (h12 := h12)  hf) gX8_owned_X8_ofRow rfl yk_X8_ofRow ⟨⟨Nat.le_of_ble_eq_true rfl, Nat.le_of_ble_eq_true rfl⟩, rfl, rfl⟩ hK hP hD hS hX hA (h12 0 (by decide)) (cF_m E _ _ 0) rfl rfl hl.1 rfl (Nat.le_of_ble_eq_true rfl) ⟨Nat.zero_le _, Nat.zero_le _⟩ dX8_owned_18 (fun v_10 I_8 J_9 H locs hf hP hD hS => ?_)
        refine lv_iload_n S.1 S.2.1 dX8_owned_21 rfl (lv_at hl 1 rfl) ?_
        refine lv_icmp_ne (tgt := 29) S.1 S.2.1 dX8_owned_22 (by decide) (fun h_11 => ?_) (fun h_11 => ?_)
        · have hf := hf.2 h_11
          refine lv_iconst (v := 0) S.1 S.2.1 dX8_owned_29 rfl ?_
          refine lv_iadd S.1 S.2.1 dX8_owned_30 ?_
          refine lv_topi (fun x2_12 ex2_12 => ?_)
          have hf := hf x2_12 ex2_12
          refine lv_istore_n (lv' := [(2, .int x2_12), (0, .ref (eA E 12 0)), (1, .int x1_1), (3, .int x3_3)]) S.1 S.2.1 dX8_owned_31 rfl hl (by decide) rfl (fun ls hl => ?_)
          refine nm_o hf (fun x3_13 ex3_13 hf => ?_)
          refine lv_iinc (v := x3_13) (lv' := [(3, .int x3_13), (2, .int x2_12), (0, .ref (eA E 12 0)), (1, .int x1_1)]) S.1 S.2.1 dX8_owned_32 hl (k := 3) rfl (by rw [ex3_13]; rfl) (by decide) rfl (fun ls hl => ?_)
          refine lv_goto (tgt := 4) S.1 S.2.1 dX8_owned_35 (by decide) ?_
          exact ih4 _ _ _ _ hf _ _ _ hP hD hS (lv_sub hl [2, 3, 1, 0] rfl)
        · have hf := hf.1 h_11
          refine lv_iconst (v := 1) S.1 S.2.1 dX8_owned_25 rfl ?_
          refine lv_goto (tgt := 30) S.1 S.2.1 dX8_owned_26 (by decide) ?_
          refine lv_iadd S.1 S.2.1 dX8_owned_30 ?_
          refine lv_topi (fun x2_14 ex2_14 => ?_)
          have hf := hf x2_14 ex2_14
          refine lv_istore_n (lv' := [(2, .int x2_14), (0, .ref (eA E 12 0)), (1, .int x1_1), (3, .int x3_3)]) S.1 S.2.1 dX8_owned_31 rfl hl (by decide) rfl (fun ls hl => ?_)
          refine nm_o hf (fun x3_15 ex3_15 hf => ?_)
          refine lv_iinc (v := x3_15) (lv' := [(3, .int x3_15), (2, .int x2_14), (0, .ref (eA E 12 0)), (1, .int x1_1)]) S.1 S.2.1 dX8_owned_32 hl (k := 3) rfl (by rw [ex3_15]; rfl) (by decide) rfl (fun ls hl => ?_)
          refine lv_goto (tgt := 4) S.1 S.2.1 dX8_owned_35 (by decide) ?_
          exact ih4 _ _ _ _ hf _ _ _ hP hD hS (lv_sub hl [2, 3, 1, 0] rfl)
  refine L4 _ _ (fun x2_16 I_17 J_18 hf H locs ls hP hD hS hl => ?_)  n_19 _ _ _ _ hf _ _ _ hP hD hS (lv_sub hl [2, 3, 1, 0] rfl)
  refine lv_iload_n S.1 S.2.1 dX8_owned_38 rfl (lv_at hl 0 rfl) ?_
  exact hret hf rfl hP hD hS dX8_owned_39
