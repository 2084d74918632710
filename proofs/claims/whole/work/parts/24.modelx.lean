abbrev rmX8_winner : Room := { frames := 10, cells := 0, slots := 0, locals := 232 }
theorem yk_X8_winner : yOk yX8_winner RX8 0 := by unfold yOk; decide +kernel
def f_X8_winner_B31 (K64 : Int32 → MI → MJ → Prop) (rec31 : Int32 → Int32 → MI → MJ → Prop) (x2_7 : Int32) (x3_8 : Int32) (I_9 : MI) (J_10 : MJ) : Prop :=
  (vp_in (1 : Int32) 1802 ∧ (((I_9 12 2 (1 : Int32).toNatClampNeg) ≤ x3_8 → K64 x2_7 I_9 J_10) ∧ (¬ (I_9 12 2 (1 : Int32).toNatClampNeg) ≤ x3_8 → f_X8_ofPlayer x3_8 (0 : Int32) I_9 J_10 (fun (v_15 : Int32) (I_13 : MI) (J_14 : MJ) => f_X8_ofPlayer x2_7 (0 : Int32) I_13 J_14 (fun (v_18 : Int32) (I_16 : MI) (J_17 : MJ) => ((v_15 ≤ v_18 → ∀ x3_20 : Int32, x3_20 = x3_8 + (1 : Int32) → rec31 x2_7 x3_20 I_16 J_17) ∧ (¬ v_15 ≤ v_18 → ∀ x3_21 : Int32, x3_21 = x3_8 + (1 : Int32) → rec31 x3_8 x3_21 I_16 J_17)))))))
def f_X8_winner_L31 (K64 : Int32 → MI → MJ → Prop) : Nat → Int32 → Int32 → MI → MJ → Prop
  | 0, _, _, _, _ => False
  | n + 1, x2_7, x3_8, I_9, J_10 => f_X8_winner_B31 K64 (f_X8_winner_L31 K64 n) x2_7 x3_8 I_9 J_10
def f_X8_winner (I : MI) (J : MJ) (Q : Int32 → MI → MJ → Prop) : Prop :=
  ∀ I_1 : MI, I_1 = sI I 12 0 0 (0 : Int32) → f_X8_copy 12 2 1802 12 4 602 (602 : Int32) I_1 J (fun (I_2 : MI) (J_3 : MJ) => f_X8_goOn (2147483647 : Int32) I_2 J_3 (fun (v_6 : Int32) (I_4 : MI) (J_5 : MJ) => ∃ n : Nat, f_X8_winner_L31 (fun (x2_22 : Int32) (I_23 : MI) (J_24 : MJ) => f_X8_copy 12 4 602 12 2 1802 (602 : Int32) I_23 J_24 (fun (I_25 : MI) (J_26 : MJ) => Q x2_22 I_25 J_26)) n (0 : Int32) (1 : Int32) I_4 J_5))
set_option maxRecDepth 100000 in
set_option maxHeartbeats 4000000 in
theorem c_X8_winner {l : Launch} {E : EV} {ps : List (Nat × Nat)} (h12 : ∀ r, r < 17 → (12, r) ∈ ps) {I : MI} {J : MJ} {Q : Int32 → MI → MJ → Prop} (hf : f_X8_winner I J Q) : KI l yX8_winner wsX8_winner rmX8_winner E ps [.ref (eA E 12 0)] I J Q := by
  refine K_ofI (cc := cX8_winner) (maxL := 4) (ty := .int) (by decide +kernel) rfl (Nat.le_of_ble_eq_true rfl) (fun p e s m args below meth c Qm hret S hK hX => ?_)
  have hA : ∀ q, s.heap.size ≤ q → AA E ps s.heap.size q := fun _ h => Or.inr h
  have k1 := S.2.2.2.2 (.fieldLink RX8 49 "RhymeRoofsModel" "thrown" "I") (by decide +kernel)
  have iX8 : ∀ w ∈ wsX80, w ∈ wsX8_winner := fun _ h => List.mem_cons_of_mem _ (List.mem_append_right _ h)
  have k2 := S.2.2.2.2 (.fieldLink RX8 17 "RhymeRoofsModel" "data" "[I") (by decide +kernel)
  have k3 := S.2.2.2.2 (.fieldLink RX8 23 "RhymeRoofsModel" "aside" "[I") (by decide +kernel)
  have k4 := S.2.2.2.2 (.constant RX8 359 (2147483647)) (by decide +kernel)
  intro H locs ls hP hD hS hl
  unfold f_X8_winner at hf
  refine lv_aload_n S.1 S.2.1 dX8_winner_0 rfl (lv_at hl 0 rfl) ?_
  refine lv_iconst (v := 0) S.1 S.2.1 dX8_winner_1 rfl ?_
  refine nm_o hf (fun I_1 eI_1 hf => ?_)
  refine pfX8_0 S iX8 hK hP hD hS (h12 0 (by decide)) k1 dX8_winner_2 eI_1 (fun H locs hP hD hS => ?_)
  refine lv_aload_n S.1 S.2.1 dX8_winner_5 rfl (lv_at hl 0 rfl) ?_
  refine gfX8_8 S iX8 hK hP (h12 0 (by decide)) k2 dX8_winner_6 ?_
  refine lv_aload_n S.1 S.2.1 dX8_winner_9 rfl (lv_at hl 0 rfl) ?_
  refine gfX8_10 S iX8 hK hP (h12 0 (by decide)) k3 dX8_winner_10 ?_
  refine lv_sipush (v := 602) S.1 S.2.1 dX8_winner_13 rfl ?_
  refine R_cSv (As := [.ref (eA E 12 2), .ref (eA E 12 4), .int (602 : Int32)]) (rest := []) S (c_X8_copy  (hm1 := (h12 2 (by decide))) (hc1 := (IAm2 E)) (hm2 := (h12 4 (by decide))) (hc2 := (IAm4 E)) hf) gX8_winner_X8_copy rfl yk_X8_copy ⟨⟨Nat.le_of_ble_eq_true rfl, Nat.le_of_ble_eq_true rfl⟩, rfl, rfl⟩ hK hP hD hS hX hA rfl hl.1 rfl (Nat.le_of_ble_eq_true rfl) ⟨Nat.zero_le _, Nat.zero_le _⟩ dX8_winner_16 (fun I_2 J_3 H locs hf hP hD hS => ?_)
  refine lv_aload_n S.1 S.2.1 dX8_winner_19 rfl (lv_at hl 0 rfl) ?_
  refine lv_ldcw (v := 2147483647) S.1 S.2.1 S.2.2.2.1 k4 dX8_winner_20 ?_
  refine R_cVi (As := [.int (2147483647 : Int32)]) (rest := []) S (c_X8_goOn (h12 := h12)  hf) gX8_winner_X8_goOn rfl yk_X8_goOn ⟨⟨Nat.le_of_ble_eq_true rfl, Nat.le_of_ble_eq_true rfl⟩, rfl, rfl⟩ hK hP hD hS hX hA (h12 0 (by decide)) (cF_m E _ _ 0) rfl rfl hl.1 rfl (Nat.le_of_ble_eq_true rfl) ⟨Nat.zero_le _, Nat.zero_le _⟩ dX8_winner_23 (fun v_6 I_4 J_5 H locs hf hP hD hS => ?_)
  refine lv_istore_n (lv' := [(1, .int v_6), (0, .ref (eA E 12 0))]) S.1 S.2.1 dX8_winner_26 rfl hl (by decide) rfl (fun ls hl => ?_)
  refine lv_iconst (v := 0) S.1 S.2.1 dX8_winner_27 rfl ?_
  refine lv_istore_n (lv' := [(2, .int (0 : Int32)), (1, .int v_6), (0, .ref (eA E 12 0))]) S.1 S.2.1 dX8_winner_28 rfl hl (by decide) rfl (fun ls hl => ?_)
  refine lv_iconst (v := 1) S.1 S.2.1 dX8_winner_29 rfl ?_
  refine lv_istore_n (lv' := [(3, .int (1 : Int32)), (2, .int (0 : Int32)), (1, .int v_6), (0, .ref (eA E 12 0))]) S.1 S.2.1 dX8_winner_30 rfl hl (by decide) rfl (fun ls hl => ?_)
  obtain ⟨n_27, hf⟩ := hf
  have L31 : ∀ (K64 : Int32 → MI → MJ → Prop), (∀ (x2_22 : Int32) (I_23 : MI) (J_24 : MJ), K64 x2_22 I_23 J_24 → Wj p l e (rmX8_winner) s m args below meth c Qm E ps 4 I_23 J_24 64 [(0, .ref (eA E 12 0)), (2, .int x2_22)] []) → ∀ (n : Nat) (x2_7 : Int32) (x3_8 : Int32) (I_9 : MI) (J_10 : MJ), f_X8_winner_L31 K64 n x2_7 x3_8 I_9 J_10 → Wj p l e (rmX8_winner) s m args below meth c Qm E ps 4 I_9 J_10 31 [(0, .ref (eA E 12 0)), (2, .int x2_7), (3, .int x3_8)] [] := by
    intro K64 kx64 n
    induction n with
    | zero => intro x2_7 x3_8 I_9 J_10 hf; exact hf.elim
    | succ n ih31 =>
      intro x2_7 x3_8 I_9 J_10 hf
      have hf : f_X8_winner_B31 K64 (f_X8_winner_L31 K64 n) x2_7 x3_8 I_9 J_10 := hf
      intro H locs ls hP hD hS hl
      unfold f_X8_winner_B31 at hf
      refine lv_iload_n S.1 S.2.1 dX8_winner_31 rfl (lv_at hl 2 rfl) ?_
      refine lv_aload_n S.1 S.2.1 dX8_winner_32 rfl (lv_at hl 0 rfl) ?_
      refine gfX8_8 S iX8 hK hP (h12 0 (by decide)) k2 dX8_winner_33 ?_
      refine lv_iconst (v := 1) S.1 S.2.1 dX8_winner_36 rfl ?_
      obtain ⟨h_11, hf⟩ := hf
      refine R_iald S.1 S.2.1 hK hP (h12 2 (by decide)) (IAm2 E) h_11 dX8_winner_37 ?_
      refine lv_icmp_ge (tgt := 64) S.1 S.2.1 dX8_winner_38 (by decide) (fun h_12 => ?_) (fun h_12 => ?_)
      · have hf := hf.1 h_12
        exact kx64 _ _ _ hf _ _ _ hP hD hS (lv_sub hl [0, 1] rfl)
      · have hf := hf.2 h_12
        refine lv_aload_n S.1 S.2.1 dX8_winner_41 rfl (lv_at hl 0 rfl) ?_
        refine lv_iload_n S.1 S.2.1 dX8_winner_42 rfl (lv_at hl 2 rfl) ?_
        refine lv_iconst (v := 0) S.1 S.2.1 dX8_winner_43 rfl ?_
        refine R_cVi (As := [.int x3_8, .int (0 : Int32)]) (rest := []) S (c_X8_ofPlayer (h12 := h12)  hf) gX8_winner_X8_ofPlayer rfl yk_X8_ofPlayer ⟨⟨Nat.le_of_ble_eq_true rfl, Nat.le_of_ble_eq_true rfl⟩, rfl, rfl⟩ hK hP hD hS hX hA (h12 0 (by decide)) (cF_m E _ _ 0) rfl rfl hl.1 rfl (Nat.le_of_ble_eq_true rfl) ⟨Nat.zero_le _, Nat.zero_le _⟩ dX8_winner_44 (fun v_15 I_13 J_14 H locs hf hP hD hS => ?_)
        refine lv_aload_n S.1 S.2.1 dX8_winner_47 rfl (lv_at hl 0 rfl) ?_
        refine lv_iload_n S.1 S.2.1 dX8_winner_48 rfl (lv_at hl 1 rfl) ?_
        refine lv_iconst (v := 0) S.1 S.2.1 dX8_winner_49 rfl ?_
        refine R_cVi (As := [.int x2_7, .int (0 : Int32)]) (rest := [.int v_15]) S (c_X8_ofPlayer (h12 := h12)  hf) gX8_winner_X8_ofPlayer rfl yk_X8_ofPlayer ⟨⟨Nat.le_of_ble_eq_true rfl, Nat.le_of_ble_eq_true rfl⟩, rfl, rfl⟩ hK hP hD hS hX hA (h12 0 (by decide)) (cF_m E _ _ 0) rfl rfl hl.1 rfl (Nat.le_of_ble_eq_true rfl) ⟨Nat.zero_le _, Nat.zero_le _⟩ dX8_winner_50 (fun v_18 I_16 J_17 H locs hf hP hD hS => ?_)
        refine lv_icmp_le (tgt := 58) S.1 S.2.1 dX8_winner_53 (by decide) (fun h_19 => ?_) (fun h_19 => ?_)
        · have hf := hf.1 h_19
          refine nm_o hf (fun x3_20 ex3_20 hf => ?_)
          refine lv_iinc (v := x3_20) (lv' := [(3, .int x3_20), (0, .ref (eA E 12 0)), (2, .int x2_7)]) S.1 S.2.1 dX8_winner_58 hl (k := 2) rfl (by rw [ex3_20]; rfl) (by decide) rfl (fun ls hl => ?_)
          refine lv_goto (tgt := 31) S.1 S.2.1 dX8_winner_61 (by decide) ?_
          exact ih31 _ _ _ _ hf _ _ _ hP hD hS (lv_sub hl [1, 2, 0] rfl)
        · have hf := hf.2 h_19
          refine lv_iload_n S.1 S.2.1 dX8_winner_56 rfl (lv_at hl 2 rfl) ?_
          refine lv_istore_n (lv' := [(2, .int x3_8), (0, .ref (eA E 12 0)), (3, .int x3_8)]) S.1 S.2.1 dX8_winner_57 rfl hl (by decide) rfl (fun ls hl => ?_)
          refine nm_o hf (fun x3_21 ex3_21 hf => ?_)
          refine lv_iinc (v := x3_21) (lv' := [(3, .int x3_21), (2, .int x3_8), (0, .ref (eA E 12 0))]) S.1 S.2.1 dX8_winner_58 hl (k := 2) rfl (by rw [ex3_21]; rfl) (by decide) rfl (fun ls hl => ?_)
          refine lv_goto (tgt := 31) S.1 S.2.1 dX8_winner_61 (by decide) ?_
          exact ih31 _ _ _ _ hf _ _ _ hP hD hS (lv_sub hl [2, 1, 0] rfl)
  refine L31 _ (fun x2_22 I_23 J_24 hf H locs ls hP hD hS hl => ?_)  n_27 _ _ _ _ hf _ _ _ hP hD hS (lv_sub hl [3, 1, 0] rfl)
  refine lv_aload_n S.1 S.2.1 dX8_winner_64 rfl (lv_at hl 0 rfl) ?_
  refine gfX8_10 S iX8 hK hP (h12 0 (by decide)) k3 dX8_winner_65 ?_
  refine lv_aload_n S.1 S.2.1 dX8_winner_68 rfl (lv_at hl 0 rfl) ?_
  refine gfX8_8 S iX8 hK hP (h12 0 (by decide)) k2 dX8_winner_69 ?_
  refine lv_sipush (v := 602) S.1 S.2.1 dX8_winner_72 rfl ?_
  refine R_cSv (As := [.ref (eA E 12 4), .ref (eA E 12 2), .int (602 : Int32)]) (rest := []) S (c_X8_copy  (hm1 := (h12 4 (by decide))) (hc1 := (IAm4 E)) (hm2 := (h12 2 (by decide))) (hc2 := (IAm2 E)) hf) gX8_winner_X8_copy rfl yk_X8_copy ⟨⟨Nat.le_of_ble_eq_true rfl, Nat.le_of_ble_eq_true rfl⟩, rfl, rfl⟩ hK hP hD hS hX hA rfl hl.1 rfl (Nat.le_of_ble_eq_true rfl) ⟨Nat.zero_le _, Nat.zero_le _⟩ dX8_winner_75 (fun I_25 J_26 H locs hf hP hD hS => ?_)
  refine lv_iload_n S.1 S.2.1 dX8_winner_78 rfl (lv_at hl 1 rfl) ?_
  exact hret hf rfl hP hD hS dX8_winner_79
abbrev rmX8_stepsToEnd : Room := { frames := 10, cells := 0, slots := 0, locals := 232 }
theorem yk_X8_stepsToEnd : yOk yX8_stepsToEnd RX8 0 := by unfold yOk; decide +kernel
def f_X8_stepsToEnd (I : MI) (J : MJ) (Q : Int32 → MI → MJ → Prop) : Prop :=
  ∀ I_1 : MI, I_1 = sI I 12 0 0 (0 : Int32) → f_X8_copy 12 2 1802 12 4 602 (602 : Int32) I_1 J (fun (I_2 : MI) (J_3 : MJ) => f_X8_goOn (2147483647 : Int32) I_2 J_3 (fun (v_6 : Int32) (I_4 : MI) (J_5 : MJ) => f_X8_copy 12 4 602 12 2 1802 (602 : Int32) I_4 J_5 (fun (I_7 : MI) (J_8 : MJ) => Q v_6 I_7 J_8)))
set_option maxRecDepth 100000 in
set_option maxHeartbeats 4000000 in
theorem c_X8_stepsToEnd {l : Launch} {E : EV} {ps : List (Nat × Nat)} (h12 : ∀ r, r < 17 → (12, r) ∈ ps) {I : MI} {J : MJ} {Q : Int32 → MI → MJ → Prop} (hf : f_X8_stepsToEnd I J Q) : KI l yX8_stepsToEnd wsX8_stepsToEnd rmX8_stepsToEnd E ps [.ref (eA E 12 0)] I J Q := by
  refine K_ofI (cc := cX8_stepsToEnd) (maxL := 2) (ty := .int) (by decide +kernel) rfl (Nat.le_of_ble_eq_true rfl) (fun p e s m args below meth c Qm hret S hK hX => ?_)
  have hA : ∀ q, s.heap.size ≤ q → AA E ps s.heap.size q := fun _ h => Or.inr h
  have k1 := S.2.2.2.2 (.fieldLink RX8 49 "RhymeRoofsModel" "thrown" "I") (by decide +kernel)
  have iX8 : ∀ w ∈ wsX80, w ∈ wsX8_stepsToEnd := fun _ h => List.mem_cons_of_mem _ (List.mem_append_right _ h)
  have k2 := S.2.2.2.2 (.fieldLink RX8 17 "RhymeRoofsModel" "data" "[I") (by decide +kernel)
  have k3 := S.2.2.2.2 (.fieldLink RX8 23 "RhymeRoofsModel" "aside" "[I") (by decide +kernel)
  have k4 := S.2.2.2.2 (.constant RX8 359 (2147483647)) (by decide +kernel)
  intro H locs ls hP hD hS hl
  unfold f_X8_stepsToEnd at hf
  refine lv_aload_n S.1 S.2.1 dX8_stepsToEnd_0 rfl (lv_at hl 0 rfl) ?_
  refine lv_iconst (v := 0) S.1 S.2.1 dX8_stepsToEnd_1 rfl ?_
  refine nm_o hf (fun I_1 eI_1 hf => ?_)
  refine pfX8_0 S iX8 hK hP hD hS (h12 0 (by decide)) k1 dX8_stepsToEnd_2 eI_1 (fun H locs hP hD hS => ?_)
  refine lv_aload_n S.1 S.2.1 dX8_stepsToEnd_5 rfl (lv_at hl 0 rfl) ?_
  refine gfX8_8 S iX8 hK hP (h12 0 (by decide)) k2 dX8_stepsToEnd_6 ?_
  refine lv_aload_n S.1 S.2.1 dX8_stepsToEnd_9 rfl (lv_at hl 0 rfl) ?_
  refine gfX8_10 S iX8 hK hP (h12 0 (by decide)) k3 dX8_stepsToEnd_10 ?_
  refine lv_sipush (v := 602) S.1 S.2.1 dX8_stepsToEnd_13 rfl ?_
  refine R_cSv (As := [.ref (eA E 12 2), .ref (eA E 12 4), .int (602 : Int32)]) (rest := []) S (c_X8_copy  (hm1 := (h12 2 (by decide))) (hc1 := (IAm2 E)) (hm2 := (h12 4 (by decide))) (hc2 := (IAm4 E)) hf) gX8_stepsToEnd_X8_copy rfl yk_X8_copy ⟨⟨Nat.le_of_ble_eq_true rfl, Nat.le_of_ble_eq_true rfl⟩, rfl, rfl⟩ hK hP hD hS hX hA rfl hl.1 rfl (Nat.le_of_ble_eq_true rfl) ⟨Nat.zero_le _, Nat.zero_le _⟩ dX8_stepsToEnd_16 (fun I_2 J_3 H locs hf hP hD hS => ?_)
  refine lv_aload_n S.1 S.2.1 dX8_stepsToEnd_19 rfl (lv_at hl 0 rfl) ?_
  refine lv_ldcw (v := 2147483647) S.1 S.2.1 S.2.2.2.1 k4 dX8_stepsToEnd_20 ?_
  refine R_cVi (As := [.int (2147483647 : Int32)]) (rest := []) S (c_X8_goOn (h12 := h12)  hf) gX8_stepsToEnd_X8_goOn rfl yk_X8_goOn ⟨⟨Nat.le_of_ble_eq_true rfl, Nat.le_of_ble_eq_true rfl⟩, rfl, rfl⟩ hK hP hD hS hX hA (h12 0 (by decide)) (cF_m E _ _ 0) rfl rfl hl.1 rfl (Nat.le_of_ble_eq_true rfl) ⟨Nat.zero_le _, Nat.zero_le _⟩ dX8_stepsToEnd_23 (fun v_6 I_4 J_5 H locs hf hP hD hS => ?_)
  refine lv_istore_n (lv' := [(1, .int v_6), (0, .ref (eA E 12 0))]) S.1 S.2.1 dX8_stepsToEnd_26 rfl hl (by decide) rfl (fun ls hl => ?_)
  refine lv_aload_n S.1 S.2.1 dX8_stepsToEnd_27 rfl (lv_at hl 1 rfl) ?_
  refine gfX8_10 S iX8 hK hP (h12 0 (by decide)) k3 dX8_stepsToEnd_28 ?_
  refine lv_aload_n S.1 S.2.1 dX8_stepsToEnd_31 rfl (lv_at hl 1 rfl) ?_
  refine gfX8_8 S iX8 hK hP (h12 0 (by decide)) k2 dX8_stepsToEnd_32 ?_
  refine lv_sipush (v := 602) S.1 S.2.1 dX8_stepsToEnd_35 rfl ?_
  refine R_cSv (As := [.ref (eA E 12 4), .ref (eA E 12 2), .int (602 : Int32)]) (rest := []) S (c_X8_copy  (hm1 := (h12 4 (by decide))) (hc1 := (IAm4 E)) (hm2 := (h12 2 (by decide))) (hc2 := (IAm2 E)) hf) gX8_stepsToEnd_X8_copy rfl yk_X8_copy ⟨⟨Nat.le_of_ble_eq_true rfl, Nat.le_of_ble_eq_true rfl⟩, rfl, rfl⟩ hK hP hD hS hX hA rfl hl.1 rfl (Nat.le_of_ble_eq_true rfl) ⟨Nat.zero_le _, Nat.zero_le _⟩ dX8_stepsToEnd_38 (fun I_7 J_8 H locs hf hP hD hS => ?_)
  refine lv_iload_n S.1 S.2.1 dX8_stepsToEnd_41 rfl (lv_at hl 0 rfl) ?_
  exact hret hf rfl hP hD hS dX8_stepsToEnd_42
abbrev rmX8_remember : Room := { frames := 1, cells := 0, slots := 0, locals := 23 }
theorem yk_X8_remember : yOk yX8_remember RX8 0 := by unfold yOk; decide +kernel
def f_X8_remember_J53 (Q : MI → MJ → Prop) (I_2 : MI) (J_3 : MJ) : Prop :=
  (vp_in (I_2 12 0 12) 8 ∧ f_X8_copy 12 2 1802 12 (6 + (I_2 12 0 12).toNatClampNeg) 1802 (1802 : Int32) I_2 J_3 (fun (I_5 : MI) (J_6 : MJ) => ∀ I_7 : MI, I_7 = sI I_5 12 0 12 ((I_5 12 0 12) + (1 : Int32)) → Q I_7 J_6))
def f_X8_remember_B11 (K43 : MI → MJ → Prop) (rec11 : Int32 → MI → MJ → Prop) (x1_8 : Int32) (I_9 : MI) (J_10 : MJ) : Prop :=
  (((8 : Int32) ≤ x1_8 → K43 I_9 J_10) ∧ (¬ (8 : Int32) ≤ x1_8 → (vp_in x1_8 8 ∧ (vp_in (x1_8 - (1 : Int32)) 8 ∧ f_X8_copy 12 (6 + x1_8.toNatClampNeg) 1802 12 (6 + (x1_8 - (1 : Int32)).toNatClampNeg) 1802 (1802 : Int32) I_9 J_10 (fun (I_14 : MI) (J_15 : MJ) => ∀ x1_16 : Int32, x1_16 = x1_8 + (1 : Int32) → rec11 x1_16 I_14 J_15)))))
def f_X8_remember_L11 (K43 : MI → MJ → Prop) : Nat → Int32 → MI → MJ → Prop
  | 0, _, _, _ => False
  | n + 1, x1_8, I_9, J_10 => f_X8_remember_B11 K43 (f_X8_remember_L11 K43 n) x1_8 I_9 J_10
def f_X8_remember (I : MI) (J : MJ) (Q : MI → MJ → Prop) : Prop :=
  (((I 12 0 12) = (8 : Int32) → ∃ n : Nat, f_X8_remember_L11 (fun (I_17 : MI) (J_18 : MJ) => ∀ I_19 : MI, I_19 = sI I_17 12 0 12 ((I_17 12 0 12) - (1 : Int32)) → f_X8_remember_J53 Q I_19 J_18) n (1 : Int32) I J) ∧ (¬ (I 12 0 12) = (8 : Int32) → f_X8_remember_J53 Q I J))
set_option maxRecDepth 100000 in
set_option maxHeartbeats 4000000 in
theorem c_X8_remember {l : Launch} {E : EV} {ps : List (Nat × Nat)} (h12 : ∀ r, r < 17 → (12, r) ∈ ps) (hR : (eT E)[3]? = some (eM E, .array .int)) {I : MI} {J : MJ} {Q : MI → MJ → Prop} (hf : f_X8_remember I J Q) : KV l yX8_remember wsX8_remember rmX8_remember E ps [.ref (eA E 12 0)] I J Q := by
  refine K_ofV (cc := cX8_remember) (maxL := 2) (by decide +kernel) rfl (Nat.le_of_ble_eq_true rfl) (fun p e s m args below meth c Qm hret S hK hX => ?_)
  have hA : ∀ q, s.heap.size ≤ q → AA E ps s.heap.size q := fun _ h => Or.inr h
  have k1 := S.2.2.2.2 (.fieldLink RX8 363 "RhymeRoofsModel" "undoDepth" "I") (by decide +kernel)
  have iX8 : ∀ w ∈ wsX80, w ∈ wsX8_remember := fun _ h => List.mem_cons_of_mem _ (List.mem_append_right _ h)
  have k2 := S.2.2.2.2 (.fieldLink RX8 17 "RhymeRoofsModel" "data" "[I") (by decide +kernel)
  have k3 := S.2.2.2.2 (.fieldLink RX8 28 "RhymeRoofsModel" "history" "[[I") (by decide +kernel)
  have jn53 : ∀ (I_2 : MI) (J_3 : MJ), f_X8_remember_J53 Q I_2 J_3 → Wj p l e (rmX8_remember) s m args below meth c Qm E ps 2 I_2 J_3 53 [(0, .ref (eA E 12 0))] [] := by
    intro I_2 J_3 hf H locs ls hP hD hS hl
    unfold f_X8_remember_J53 at hf
    refine lv_aload_n S.1 S.2.1 dX8_remember_53 rfl (lv_at hl 0 rfl) ?_
    refine gfX8_8 S iX8 hK hP (h12 0 (by decide)) k2 dX8_remember_54 ?_
    refine lv_aload_n S.1 S.2.1 dX8_remember_57 rfl (lv_at hl 0 rfl) ?_
    refine gfX8_11 S iX8 hK hP (h12 0 (by decide)) k3 dX8_remember_58 ?_
    refine lv_aload_n S.1 S.2.1 dX8_remember_61 rfl (lv_at hl 0 rfl) ?_
    refine gfX8_12 S iX8 hK hP (h12 0 (by decide)) k1 dX8_remember_62 ?_
    obtain ⟨h_4, hf⟩ := hf
    refine R_aldM S.1 S.2.1 hK hR hP (h12 5 (by decide)) h_4 dX8_remember_65 ?_
    refine lv_sipush (v := 1802) S.1 S.2.1 dX8_remember_66 rfl ?_
    refine R_cSv (As := [.ref (eA E 12 2), .ref (eA E 12 (6 + (I_2 12 0 12).toNatClampNeg)), .int (1802 : Int32)]) (rest := []) S (c_X8_copy  (hm1 := (h12 2 (by decide))) (hc1 := (IAm2 E)) (hm2 := (h12 _ (hst h_4))) (hc2 := (IAmh E (hs8 h_4))) hf) gX8_remember_X8_copy rfl yk_X8_copy ⟨⟨Nat.le_of_ble_eq_true rfl, Nat.le_of_ble_eq_true rfl⟩, rfl, rfl⟩ hK hP hD hS hX hA rfl hl.1 rfl (Nat.le_of_ble_eq_true rfl) ⟨Nat.zero_le _, Nat.zero_le _⟩ dX8_remember_69 (fun I_5 J_6 H locs hf hP hD hS => ?_)
    refine lv_aload_n S.1 S.2.1 dX8_remember_72 rfl (lv_at hl 0 rfl) ?_
    refine lv_dup S.1 S.2.1 dX8_remember_73 rfl ?_
    refine gfX8_12 S iX8 hK hP (h12 0 (by decide)) k1 dX8_remember_74 ?_
    refine lv_iconst (v := 1) S.1 S.2.1 dX8_remember_77 rfl ?_
    refine lv_iadd S.1 S.2.1 dX8_remember_78 ?_
    refine nm_o hf (fun I_7 eI_7 hf => ?_)
    refine pfX8_12 S iX8 hK hP hD hS (h12 0 (by decide)) k1 dX8_remember_79 eI_7 (fun H locs hP hD hS => ?_)
    exact hret hf hP hD hS dX8_remember_82
  intro H locs ls hP hD hS hl
  unfold f_X8_remember at hf
  refine lv_aload_n S.1 S.2.1 dX8_remember_0 rfl (lv_at hl 0 rfl) ?_
  refine gfX8_12 S iX8 hK hP (h12 0 (by decide)) k1 dX8_remember_1 ?_
  refine lv_bipush (v := 8) S.1 S.2.1 dX8_remember_4 rfl ?_
  refine lv_icmp_ne (tgt := 53) S.1 S.2.1 dX8_remember_6 (by decide) (fun h_1 => ?_) (fun h_1 => ?_)
  · have hf := hf.2 h_1
    exact jn53 _ _ hf _ _ _ hP hD hS (lv_sub hl [0] rfl)
  · have hf := hf.1 h_1
    refine lv_iconst (v := 1) S.1 S.2.1 dX8_remember_9 rfl ?_
    refine lv_istore_n (lv' := [(1, .int (1 : Int32)), (0, .ref (eA E 12 0))]) S.1 S.2.1 dX8_remember_10 rfl hl (by decide) rfl (fun ls hl => ?_)
    obtain ⟨n_20, hf⟩ := hf
    have L11 : ∀ (K43 : MI → MJ → Prop), (∀ (I_17 : MI) (J_18 : MJ), K43 I_17 J_18 → Wj p l e (rmX8_remember) s m args below meth c Qm E ps 2 I_17 J_18 43 [(0, .ref (eA E 12 0))] []) → ∀ (n : Nat) (x1_8 : Int32) (I_9 : MI) (J_10 : MJ), f_X8_remember_L11 K43 n x1_8 I_9 J_10 → Wj p l e (rmX8_remember) s m args below meth c Qm E ps 2 I_9 J_10 11 [(0, .ref (eA E 12 0)), (1, .int x1_8)] [] := by
      intro K43 kx43 n
      induction n with
      | zero => intro x1_8 I_9 J_10 hf; exact hf.elim
      | succ n ih11 =>
        intro x1_8 I_9 J_10 hf
        have hf : f_X8_remember_B11 K43 (f_X8_remember_L11 K43 n) x1_8 I_9 J_10 := hf
        intro H locs ls hP hD hS hl
        unfold f_X8_remember_B11 at hf
        refine lv_iload_n S.1 S.2.1 dX8_remember_11 rfl (lv_at hl 1 rfl) ?_
        refine lv_bipush (v := 8) S.1 S.2.1 dX8_remember_12 rfl ?_
        refine lv_icmp_ge (tgt := 43) S.1 S.2.1 dX8_remember_14 (by decide) (fun h_11 => ?_) (fun h_11 => ?_)
        · have hf := hf.1 h_11
          exact kx43 _ _ hf _ _ _ hP hD hS (lv_sub hl [0] rfl)
        · have hf := hf.2 h_11
          refine lv_aload_n S.1 S.2.1 dX8_remember_17 rfl (lv_at hl 0 rfl) ?_
          refine gfX8_11 S iX8 hK hP (h12 0 (by decide)) k3 dX8_remember_18 ?_
          refine lv_iload_n S.1 S.2.1 dX8_remember_21 rfl (lv_at hl 1 rfl) ?_
          obtain ⟨h_12, hf⟩ := hf
          refine R_aldM S.1 S.2.1 hK hR hP (h12 5 (by decide)) h_12 dX8_remember_22 ?_
          refine lv_aload_n S.1 S.2.1 dX8_remember_23 rfl (lv_at hl 0 rfl) ?_
          refine gfX8_11 S iX8 hK hP (h12 0 (by decide)) k3 dX8_remember_24 ?_
          refine lv_iload_n S.1 S.2.1 dX8_remember_27 rfl (lv_at hl 1 rfl) ?_
          refine lv_iconst (v := 1) S.1 S.2.1 dX8_remember_28 rfl ?_
          refine lv_isub S.1 S.2.1 dX8_remember_29 ?_
          obtain ⟨h_13, hf⟩ := hf
          refine R_aldM S.1 S.2.1 hK hR hP (h12 5 (by decide)) h_13 dX8_remember_30 ?_
          refine lv_sipush (v := 1802) S.1 S.2.1 dX8_remember_31 rfl ?_
          refine R_cSv (As := [.ref (eA E 12 (6 + x1_8.toNatClampNeg)), .ref (eA E 12 (6 + (x1_8 - (1 : Int32)).toNatClampNeg)), .int (1802 : Int32)]) (rest := []) S (c_X8_copy  (hm1 := (h12 _ (hst h_12))) (hc1 := (IAmh E (hs8 h_12))) (hm2 := (h12 _ (hst h_13))) (hc2 := (IAmh E (hs8 h_13))) hf) gX8_remember_X8_copy rfl yk_X8_copy ⟨⟨Nat.le_of_ble_eq_true rfl, Nat.le_of_ble_eq_true rfl⟩, rfl, rfl⟩ hK hP hD hS hX hA rfl hl.1 rfl (Nat.le_of_ble_eq_true rfl) ⟨Nat.zero_le _, Nat.zero_le _⟩ dX8_remember_34 (fun I_14 J_15 H locs hf hP hD hS => ?_)
          refine nm_o hf (fun x1_16 ex1_16 hf => ?_)
          refine lv_iinc (v := x1_16) (lv' := [(1, .int x1_16), (0, .ref (eA E 12 0))]) S.1 S.2.1 dX8_remember_37 hl (k := 1) rfl (by rw [ex1_16]; rfl) (by decide) rfl (fun ls hl => ?_)
          refine lv_goto (tgt := 11) S.1 S.2.1 dX8_remember_40 (by decide) ?_
          exact ih11 _ _ _ hf _ _ _ hP hD hS (lv_sub hl [1, 0] rfl)
    refine L11 _ (fun I_17 J_18 hf H locs ls hP hD hS hl => ?_)  n_20 _ _ _ hf _ _ _ hP hD hS (lv_sub hl [1, 0] rfl)
    refine lv_aload_n S.1 S.2.1 dX8_remember_43 rfl (lv_at hl 0 rfl) ?_
    refine lv_dup S.1 S.2.1 dX8_remember_44 rfl ?_
    refine gfX8_12 S iX8 hK hP (h12 0 (by decide)) k1 dX8_remember_45 ?_
    refine lv_iconst (v := 1) S.1 S.2.1 dX8_remember_48 rfl ?_
    refine lv_isub S.1 S.2.1 dX8_remember_49 ?_
    refine nm_o hf (fun I_19 eI_19 hf => ?_)
    refine pfX8_12 S iX8 hK hP hD hS (h12 0 (by decide)) k1 dX8_remember_50 eI_19 (fun H locs hP hD hS => ?_)
    exact jn53 _ _ hf _ _ _ hP hD hS (lv_sub hl [0] rfl)
abbrev rmX8_lay : Room := { frames := 7, cells := 0, slots := 0, locals := 160 }
theorem yk_X8_lay : yOk yX8_lay RX8 2 := by unfold yOk; decide +kernel
def f_X8_lay_J29 (Q : Int32 → MI → MJ → Prop) (x1_10 : Int32) (x2_11 : Int32) (s_12 : Int32) (I_13 : MI) (J_14 : MJ) : Prop :=
  f_X8_fails s_12 (2 : Int32) I_13 J_14 (fun (v_17 : Int32) (I_15 : MI) (J_16 : MJ) => ((v_17 = (0 : Int32) → f_X8_remember I_15 J_16 (fun (I_19 : MI) (J_20 : MJ) => f_X8_layNow x1_10 x2_11 I_19 J_20 (fun (v_23 : Int32) (I_21 : MI) (J_22 : MJ) => Q v_23 I_21 J_22))) ∧ (¬ v_17 = (0 : Int32) → Q (0 : Int32) I_15 J_16)))
def f_X8_lay (x1 : Int32) (x2 : Int32) (I : MI) (J : MJ) (Q : Int32 → MI → MJ → Prop) : Prop :=
  ∀ I_1 : MI, I_1 = sI I 12 0 0 (0 : Int32) → f_X8_noPlay x1 x2 I_1 J (fun (v_4 : Int32) (I_2 : MI) (J_3 : MJ) => ((v_4 = (0 : Int32) → f_X8_refusal x1 x2 I_2 J_3 (fun (v_8 : Int32) (I_6 : MI) (J_7 : MJ) => ((v_8 = (0 : Int32) → f_X8_lay_J29 Q x1 x2 (0 : Int32) I_6 J_7) ∧ (¬ v_8 = (0 : Int32) → f_X8_lay_J29 Q x1 x2 (1 : Int32) I_6 J_7)))) ∧ (¬ v_4 = (0 : Int32) → Q (0 : Int32) I_2 J_3)))
set_option maxRecDepth 100000 in
set_option maxHeartbeats 4000000 in
theorem c_X8_lay {l : Launch} {E : EV} {ps : List (Nat × Nat)} (h12 : ∀ r, r < 17 → (12, r) ∈ ps) (hR : (eT E)[3]? = some (eM E, .array .int)) {x1 : Int32} {x2 : Int32} {I : MI} {J : MJ} {Q : Int32 → MI → MJ → Prop} (hf : f_X8_lay x1 x2 I J Q) : KI l yX8_lay wsX8_lay rmX8_lay E ps [.ref (eA E 12 0), .int x1, .int x2] I J Q := by
  refine K_ofI (cc := cX8_lay) (maxL := 3) (ty := .int) (by decide +kernel) rfl (Nat.le_of_ble_eq_true rfl) (fun p e s m args below meth c Qm hret S hK hX => ?_)
  have hA : ∀ q, s.heap.size ≤ q → AA E ps s.heap.size q := fun _ h => Or.inr h
  have k1 := S.2.2.2.2 (.fieldLink RX8 49 "RhymeRoofsModel" "thrown" "I") (by decide +kernel)
  have iX8 : ∀ w ∈ wsX80, w ∈ wsX8_lay := fun _ h => List.mem_cons_of_mem _ (List.mem_append_right _ h)
  have jn29 : ∀ (x1_10 : Int32) (x2_11 : Int32) (s_12 : Int32) (I_13 : MI) (J_14 : MJ), f_X8_lay_J29 Q x1_10 x2_11 s_12 I_13 J_14 → Wj p l e (rmX8_lay) s m args below meth c Qm E ps 3 I_13 J_14 29 [(0, .ref (eA E 12 0)), (1, .int x1_10), (2, .int x2_11)] [.int s_12, .ref (eA E 12 0)] := by
    intro x1_10 x2_11 s_12 I_13 J_14 hf H locs ls hP hD hS hl
    unfold f_X8_lay_J29 at hf
    refine lv_iconst (v := 2) S.1 S.2.1 dX8_lay_29 rfl ?_
    refine R_cVi (As := [.int s_12, .int (2 : Int32)]) (rest := []) S (c_X8_fails (h12 := h12)  hf) gX8_lay_X8_fails rfl yk_X8_fails ⟨⟨Nat.le_of_ble_eq_true rfl, Nat.le_of_ble_eq_true rfl⟩, rfl, rfl⟩ hK hP hD hS hX hA (h12 0 (by decide)) (cF_m E _ _ 0) rfl rfl hl.1 rfl (Nat.le_of_ble_eq_true rfl) ⟨Nat.zero_le _, Nat.zero_le _⟩ dX8_lay_30 (fun v_17 I_15 J_16 H locs hf hP hD hS => ?_)
    refine lv_if_eq (tgt := 38) S.1 S.2.1 dX8_lay_33 (by decide) (fun h_18 => ?_) (fun h_18 => ?_)
    · have hf := hf.1 h_18
      refine lv_aload_n S.1 S.2.1 dX8_lay_38 rfl (lv_at hl 0 rfl) ?_
      refine R_cVv (As := []) (rest := []) S (c_X8_remember (h12 := h12) (hR := hR)  hf) gX8_lay_X8_remember rfl yk_X8_remember ⟨⟨Nat.le_of_ble_eq_true rfl, Nat.le_of_ble_eq_true rfl⟩, rfl, rfl⟩ hK hP hD hS hX hA (h12 0 (by decide)) (cF_m E _ _ 0) rfl rfl hl.1 rfl (Nat.le_of_ble_eq_true rfl) ⟨Nat.zero_le _, Nat.zero_le _⟩ dX8_lay_39 (fun I_19 J_20 H locs hf hP hD hS => ?_)
      refine lv_aload_n S.1 S.2.1 dX8_lay_42 rfl (lv_at hl 0 rfl) ?_
      refine lv_iload_n S.1 S.2.1 dX8_lay_43 rfl (lv_at hl 1 rfl) ?_
      refine lv_iload_n S.1 S.2.1 dX8_lay_44 rfl (lv_at hl 2 rfl) ?_
      refine R_cVi (As := [.int x1_10, .int x2_11]) (rest := []) S (c_X8_layNow (h12 := h12)  hf) gX8_lay_X8_layNow rfl yk_X8_layNow ⟨⟨Nat.le_of_ble_eq_true rfl, Nat.le_of_ble_eq_true rfl⟩, rfl, rfl⟩ hK hP hD hS hX hA (h12 0 (by decide)) (cF_m E _ _ 0) rfl rfl hl.1 rfl (Nat.le_of_ble_eq_true rfl) ⟨Nat.zero_le _, Nat.zero_le _⟩ dX8_lay_45 (fun v_23 I_21 J_22 H locs hf hP hD hS => ?_)
      exact hret hf rfl hP hD hS dX8_lay_48
    · have hf := hf.2 h_18
      refine lv_iconst (v := 0) S.1 S.2.1 dX8_lay_36 rfl ?_
      exact hret hf rfl hP hD hS dX8_lay_37
  intro H locs ls hP hD hS hl
  unfold f_X8_lay at hf
  refine lv_aload_n S.1 S.2.1 dX8_lay_0 rfl (lv_at hl 0 rfl) ?_
  refine lv_iconst (v := 0) S.1 S.2.1 dX8_lay_1 rfl ?_
  refine nm_o hf (fun I_1 eI_1 hf => ?_)
  refine pfX8_0 S iX8 hK hP hD hS (h12 0 (by decide)) k1 dX8_lay_2 eI_1 (fun H locs hP hD hS => ?_)
  refine lv_aload_n S.1 S.2.1 dX8_lay_5 rfl (lv_at hl 0 rfl) ?_
  refine lv_iload_n S.1 S.2.1 dX8_lay_6 rfl (lv_at hl 1 rfl) ?_
  refine lv_iload_n S.1 S.2.1 dX8_lay_7 rfl (lv_at hl 2 rfl) ?_
  refine R_cVi (As := [.int x1, .int x2]) (rest := []) S (c_X8_noPlay (h12 := h12)  hf) gX8_lay_X8_noPlay rfl yk_X8_noPlay ⟨⟨Nat.le_of_ble_eq_true rfl, Nat.le_of_ble_eq_true rfl⟩, rfl, rfl⟩ hK hP hD hS hX hA (h12 0 (by decide)) (cF_m E _ _ 0) rfl rfl hl.1 rfl (Nat.le_of_ble_eq_true rfl) ⟨Nat.zero_le _, Nat.zero_le _⟩ dX8_lay_8 (fun v_4 I_2 J_3 H locs hf hP hD hS => ?_)
  refine lv_if_ne (tgt := 36) S.1 S.2.1 dX8_lay_11 (by decide) (fun h_5 => ?_) (fun h_5 => ?_)
  · have hf := hf.2 h_5
    refine lv_iconst (v := 0) S.1 S.2.1 dX8_lay_36 rfl ?_
    exact hret hf rfl hP hD hS dX8_lay_37
  · have hf := hf.1 h_5
    refine lv_aload_n S.1 S.2.1 dX8_lay_14 rfl (lv_at hl 0 rfl) ?_
    refine lv_aload_n S.1 S.2.1 dX8_lay_15 rfl (lv_at hl 0 rfl) ?_
    refine lv_iload_n S.1 S.2.1 dX8_lay_16 rfl (lv_at hl 1 rfl) ?_
    refine lv_iload_n S.1 S.2.1 dX8_lay_17 rfl (lv_at hl 2 rfl) ?_
    refine R_cVi (As := [.int x1, .int x2]) (rest := [.ref (eA E 12 0)]) S (c_X8_refusal (h12 := h12)  hf) gX8_lay_X8_refusal rfl yk_X8_refusal ⟨⟨Nat.le_of_ble_eq_true rfl, Nat.le_of_ble_eq_true rfl⟩, rfl, rfl⟩ hK hP hD hS hX hA (h12 0 (by decide)) (cF_m E _ _ 0) rfl rfl hl.1 rfl (Nat.le_of_ble_eq_true rfl) ⟨Nat.zero_le _, Nat.zero_le _⟩ dX8_lay_18 (fun v_8 I_6 J_7 H locs hf hP hD hS => ?_)
    refine lv_if_eq (tgt := 28) S.1 S.2.1 dX8_lay_21 (by decide) (fun h_9 => ?_) (fun h_9 => ?_)
    · have hf := hf.1 h_9
      refine lv_iconst (v := 0) S.1 S.2.1 dX8_lay_28 rfl ?_
      exact jn29 _ _ _ _ _ hf _ _ _ hP hD hS (lv_sub hl [0, 1, 2] rfl)
    · have hf := hf.2 h_9
      refine lv_iconst (v := 1) S.1 S.2.1 dX8_lay_24 rfl ?_
      refine lv_goto (tgt := 29) S.1 S.2.1 dX8_lay_25 (by decide) ?_
      exact jn29 _ _ _ _ _ hf _ _ _ hP hD hS (lv_sub hl [0, 1, 2] rfl)
