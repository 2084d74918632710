abbrev rmX1_endTurn : Room := { frames := 2, cells := 0, slots := 0, locals := 42 }
theorem yk_X1_endTurn : yOk yX1_endTurn RX1 1 := by unfold yOk; decide +kernel
def f_X1_endTurn (b : Nat) (x1 : Int32) (I : MI) (J : MJ) (Q : MI → MJ → Prop) : Prop :=
  ((x1 = (0 : Int32) → (((I b 1 4) ≤ ((I b 0 9) + (1 : Int32)) → ∀ I_3 : MI, I_3 = sI I b 0 9 (0 : Int32) → Q I_3 J) ∧ (¬ (I b 1 4) ≤ ((I b 0 9) + (1 : Int32)) → ∀ I_4 : MI, I_4 = sI I b 0 9 ((I b 0 9) + (1 : Int32)) → Q I_4 J))) ∧ (¬ x1 = (0 : Int32) → ∀ I_5 : MI, I_5 = sI I b 0 11 (1 : Int32) → f_X1_payOwners b I_5 J (fun (I_6 : MI) (J_7 : MJ) => Q I_6 J_7)))
set_option maxRecDepth 100000 in
set_option maxHeartbeats 4000000 in
theorem c_X1_endTurn {l : Launch} {E : EV} {ps : List (Nat × Nat)} {b : Nat} (hB : b < 11) (hM : ∀ r, r < 16 → (b, r) ∈ ps) {x1 : Int32} {I : MI} {J : MJ} {Q : MI → MJ → Prop} (hf : f_X1_endTurn b x1 I J Q) : KV l yX1_endTurn wsX1_endTurn rmX1_endTurn E ps [.ref (eA E b 0), .int x1] I J Q := by
  refine K_ofV (cc := cX1_endTurn) (maxL := 2) (by decide +kernel) rfl (Nat.le_of_ble_eq_true rfl) (fun p e s m args below meth c Qm hret S hK hX => ?_)
  have hA : ∀ q, s.heap.size ≤ q → AA E ps s.heap.size q := fun _ h => Or.inr h
  have k1 := S.2.2.2.2 (.fieldLink RX1 62 "RhymeRoofs$Game" "turn" "I") (by decide +kernel)
  have iX1 : ∀ w ∈ wsX10, w ∈ wsX1_endTurn := fun _ h => List.mem_cons_of_mem _ (List.mem_append_left _ (List.mem_append_right _ h))
  have k2 := S.2.2.2.2 (.fieldLink RX1 12 "RhymeRoofs$Game" "rules" "LRhymeRoofs$Rules;") (by decide +kernel)
  have k3 := S.2.2.2.2 (.fieldLink RX1 86 "RhymeRoofs$Rules" "players" "I") (by decide +kernel)
  have iX4 : ∀ w ∈ wsX40, w ∈ wsX1_endTurn := fun _ h => List.mem_cons_of_mem _ (List.mem_append_right _ h)
  have k4 := S.2.2.2.2 (.fieldLink RX1 69 "RhymeRoofs$Game" "over" "Z") (by decide +kernel)
  intro H locs ls hP hD hS hl
  unfold f_X1_endTurn at hf
  refine lv_iload_n S.1 S.2.1 dX1_endTurn_0 rfl (lv_at hl 1 rfl) ?_
  refine lv_if_eq (tgt := 16) S.1 S.2.1 dX1_endTurn_1 (by decide) (fun h_1 => ?_) (fun h_1 => ?_)
  · have hf := hf.1 h_1
    refine lv_aload_n S.1 S.2.1 dX1_endTurn_16 rfl (lv_at hl 0 rfl) ?_
    refine lv_aload_n S.1 S.2.1 dX1_endTurn_17 rfl (lv_at hl 0 rfl) ?_
    refine gfX1_9 S iX1 hK hP hB (hM 0 (by decide)) k1 dX1_endTurn_18 ?_
    refine lv_iconst (v := 1) S.1 S.2.1 dX1_endTurn_21 rfl ?_
    refine lv_iadd S.1 S.2.1 dX1_endTurn_22 ?_
    refine lv_aload_n S.1 S.2.1 dX1_endTurn_23 rfl (lv_at hl 0 rfl) ?_
    refine gfX1_0 S iX1 hK hP hB (hM 0 (by decide)) k2 dX1_endTurn_24 ?_
    refine gfX4_4 S iX4 hK hP hB (hM 1 (by decide)) k3 dX1_endTurn_27 ?_
    refine lv_icmp_ge (tgt := 42) S.1 S.2.1 dX1_endTurn_30 (by decide) (fun h_2 => ?_) (fun h_2 => ?_)
    · have hf := hf.1 h_2
      refine lv_iconst (v := 0) S.1 S.2.1 dX1_endTurn_42 rfl ?_
      refine nm_o hf (fun I_3 eI_3 hf => ?_)
      refine pfX1_9 S iX1 hK hP hD hS hB (hM 0 (by decide)) k1 dX1_endTurn_43 eI_3 (fun H locs hP hD hS => ?_)
      exact hret hf hP hD hS dX1_endTurn_46
    · have hf := hf.2 h_2
      refine lv_aload_n S.1 S.2.1 dX1_endTurn_33 rfl (lv_at hl 0 rfl) ?_
      refine gfX1_9 S iX1 hK hP hB (hM 0 (by decide)) k1 dX1_endTurn_34 ?_
      refine lv_iconst (v := 1) S.1 S.2.1 dX1_endTurn_37 rfl ?_
      refine lv_iadd S.1 S.2.1 dX1_endTurn_38 ?_
      refine lv_goto (tgt := 43) S.1 S.2.1 dX1_endTurn_39 (by decide) ?_
      refine nm_o hf (fun I_4 eI_4 hf => ?_)
      refine pfX1_9 S iX1 hK hP hD hS hB (hM 0 (by decide)) k1 dX1_endTurn_43 eI_4 (fun H locs hP hD hS => ?_)
      exact hret hf hP hD hS dX1_endTurn_46
  · have hf := hf.2 h_1
    refine lv_aload_n S.1 S.2.1 dX1_endTurn_4 rfl (lv_at hl 0 rfl) ?_
    refine lv_iconst (v := 1) S.1 S.2.1 dX1_endTurn_5 rfl ?_
    refine nm_o hf (fun I_5 eI_5 hf => ?_)
    refine pfX1_11 S iX1 hK hP hD hS hB (hM 0 (by decide)) k4 bo1 dX1_endTurn_6 eI_5 (fun H locs hP hD hS => ?_)
    refine lv_aload_n S.1 S.2.1 dX1_endTurn_9 rfl (lv_at hl 0 rfl) ?_
    refine R_cVv (As := []) (rest := []) S (c_X1_payOwners (hB := hB) (hM := hM)  hf) gX1_endTurn_X1_payOwners rfl yk_X1_payOwners ⟨⟨Nat.le_of_ble_eq_true rfl, Nat.le_of_ble_eq_true rfl⟩, rfl, rfl⟩ hK hP hD hS hX hA (hM 0 (by decide)) (cF_g E hB _ _ 0) rfl rfl hl.1 rfl (Nat.le_of_ble_eq_true rfl) ⟨Nat.zero_le _, Nat.zero_le _⟩ dX1_endTurn_10 (fun I_6 J_7 H locs hf hP hD hS => ?_)
    refine lv_goto (tgt := 46) S.1 S.2.1 dX1_endTurn_13 (by decide) ?_
    exact hret hf hP hD hS dX1_endTurn_46
abbrev rmX1_playsNow : Room := { frames := 3, cells := 0, slots := 0, locals := 74 }
theorem yk_X1_playsNow : yOk yX1_playsNow RX1 0 := by unfold yOk; decide +kernel
def f_X1_playsNow_B19 (b : Nat) (x2_8 : Int32) (K48 : Int32 → MI → MJ → Prop) (rec19 : Int32 → Int32 → MI → MJ → Prop) (x1_7 : Int32) (x3_9 : Int32) (I_10 : MI) (J_11 : MJ) : Prop :=
  (((I_10 b 1 3) ≤ x3_9 → K48 x1_7 I_10 J_11) ∧ (¬ (I_10 b 1 3) ≤ x3_9 → f_X1_obstacleNow b x2_8 x3_9 I_10 J_11 (fun (v_15 : Int32) (I_13 : MI) (J_14 : MJ) => ((v_15 = (0 : Int32) → ∀ x1_18 : Int32, x1_18 = x1_7 + (1 : Int32) → ∀ x3_19 : Int32, x3_19 = x3_9 + (1 : Int32) → rec19 x1_18 x3_19 I_13 J_14) ∧ (¬ v_15 = (0 : Int32) → ∀ x3_17 : Int32, x3_17 = x3_9 + (1 : Int32) → rec19 x1_7 x3_17 I_13 J_14)))))
def f_X1_playsNow_L19 (b : Nat) (x2_8 : Int32) (K48 : Int32 → MI → MJ → Prop) : Nat → Int32 → Int32 → MI → MJ → Prop
  | 0, _, _, _, _ => False
  | n + 1, x1_7, x3_9, I_10, J_11 => f_X1_playsNow_B19 b x2_8 K48 (f_X1_playsNow_L19 b x2_8 K48 n) x1_7 x3_9 I_10 J_11
def f_X1_playsNow_B4 (b : Nat) (K54 : Int32 → MI → MJ → Prop) (rec4 : Int32 → Int32 → MI → MJ → Prop) (x1_1 : Int32) (x2_2 : Int32) (I_3 : MI) (J_4 : MJ) : Prop :=
  (vp_in (I_3 b 0 9) 4 ∧ (((I_3 b 13 (I_3 b 0 9).toNatClampNeg) ≤ x2_2 → K54 x1_1 I_3 J_4) ∧ (¬ (I_3 b 13 (I_3 b 0 9).toNatClampNeg) ≤ x2_2 → ∃ n : Nat, f_X1_playsNow_L19 b x2_2 (fun (x1_20 : Int32) (I_21 : MI) (J_22 : MJ) => ∀ x2_23 : Int32, x2_23 = x2_2 + (1 : Int32) → rec4 x1_20 x2_23 I_21 J_22) n x1_1 (0 : Int32) I_3 J_4)))
def f_X1_playsNow_L4 (b : Nat) (K54 : Int32 → MI → MJ → Prop) : Nat → Int32 → Int32 → MI → MJ → Prop
  | 0, _, _, _, _ => False
  | n + 1, x1_1, x2_2, I_3, J_4 => f_X1_playsNow_B4 b K54 (f_X1_playsNow_L4 b K54 n) x1_1 x2_2 I_3 J_4
def f_X1_playsNow (b : Nat) (I : MI) (J : MJ) (Q : Int32 → MI → MJ → Prop) : Prop :=
  ∃ n : Nat, f_X1_playsNow_L4 b (fun (x1_25 : Int32) (I_26 : MI) (J_27 : MJ) => Q x1_25 I_26 J_27) n (0 : Int32) (0 : Int32) I J
set_option maxRecDepth 100000 in
set_option maxHeartbeats 4000000 in
theorem c_X1_playsNow {l : Launch} {E : EV} {ps : List (Nat × Nat)} {b : Nat} (hB : b < 11) (hM : ∀ r, r < 16 → (b, r) ∈ ps) {I : MI} {J : MJ} {Q : Int32 → MI → MJ → Prop} (hf : f_X1_playsNow b I J Q) : KI l yX1_playsNow wsX1_playsNow rmX1_playsNow E ps [.ref (eA E b 0)] I J Q := by
  refine K_ofI (cc := cX1_playsNow) (maxL := 4) (ty := .int) (by decide +kernel) rfl (Nat.le_of_ble_eq_true rfl) (fun p e s m args below meth c Qm hret S hK hX => ?_)
  have hA : ∀ q, s.heap.size ≤ q → AA E ps s.heap.size q := fun _ h => Or.inr h
  have k1 := S.2.2.2.2 (.fieldLink RX1 38 "RhymeRoofs$Game" "handSize" "[I") (by decide +kernel)
  have iX1 : ∀ w ∈ wsX10, w ∈ wsX1_playsNow := fun _ h => List.mem_cons_of_mem _ (List.mem_append_left _ (List.mem_append_right _ h))
  have k2 := S.2.2.2.2 (.fieldLink RX1 62 "RhymeRoofs$Game" "turn" "I") (by decide +kernel)
  have k3 := S.2.2.2.2 (.fieldLink RX1 12 "RhymeRoofs$Game" "rules" "LRhymeRoofs$Rules;") (by decide +kernel)
  have k4 := S.2.2.2.2 (.fieldLink RX1 83 "RhymeRoofs$Rules" "rows" "I") (by decide +kernel)
  have iX4 : ∀ w ∈ wsX40, w ∈ wsX1_playsNow := fun _ h => List.mem_cons_of_mem _ (List.mem_append_right _ h)
  intro H locs ls hP hD hS hl
  unfold f_X1_playsNow at hf
  refine lv_iconst (v := 0) S.1 S.2.1 dX1_playsNow_0 rfl ?_
  refine lv_istore_n (lv' := [(1, .int (0 : Int32)), (0, .ref (eA E b 0))]) S.1 S.2.1 dX1_playsNow_1 rfl hl (by decide) rfl (fun ls hl => ?_)
  refine lv_iconst (v := 0) S.1 S.2.1 dX1_playsNow_2 rfl ?_
  refine lv_istore_n (lv' := [(2, .int (0 : Int32)), (1, .int (0 : Int32)), (0, .ref (eA E b 0))]) S.1 S.2.1 dX1_playsNow_3 rfl hl (by decide) rfl (fun ls hl => ?_)
  obtain ⟨n_28, hf⟩ := hf
  have L4 : ∀ (K54 : Int32 → MI → MJ → Prop), (∀ (x1_25 : Int32) (I_26 : MI) (J_27 : MJ), K54 x1_25 I_26 J_27 → Wj p l e (rmX1_playsNow) s m args below meth c Qm E ps 4 I_26 J_27 54 [(1, .int x1_25)] []) → ∀ (n : Nat) (x1_1 : Int32) (x2_2 : Int32) (I_3 : MI) (J_4 : MJ), f_X1_playsNow_L4 b K54 n x1_1 x2_2 I_3 J_4 → Wj p l e (rmX1_playsNow) s m args below meth c Qm E ps 4 I_3 J_4 4 [(0, .ref (eA E b 0)), (1, .int x1_1), (2, .int x2_2)] [] := by
    intro K54 kx54 n
    induction n with
    | zero => intro x1_1 x2_2 I_3 J_4 hf; exact hf.elim
    | succ n ih4 =>
      intro x1_1 x2_2 I_3 J_4 hf
      have hf : f_X1_playsNow_B4 b K54 (f_X1_playsNow_L4 b K54 n) x1_1 x2_2 I_3 J_4 := hf
      intro H locs ls hP hD hS hl
      unfold f_X1_playsNow_B4 at hf
      refine lv_iload_n S.1 S.2.1 dX1_playsNow_4 rfl (lv_at hl 2 rfl) ?_
      refine lv_aload_n S.1 S.2.1 dX1_playsNow_5 rfl (lv_at hl 0 rfl) ?_
      refine gfX1_7 S iX1 hK hP hB (hM 0 (by decide)) k1 dX1_playsNow_6 ?_
      refine lv_aload_n S.1 S.2.1 dX1_playsNow_9 rfl (lv_at hl 0 rfl) ?_
      refine gfX1_9 S iX1 hK hP hB (hM 0 (by decide)) k2 dX1_playsNow_10 ?_
      obtain ⟨h_5, hf⟩ := hf
      refine R_iald S.1 S.2.1 hK hP (hM 13 (by decide)) (IAg13 E hB) h_5 dX1_playsNow_13 ?_
      refine lv_icmp_ge (tgt := 54) S.1 S.2.1 dX1_playsNow_14 (by decide) (fun h_6 => ?_) (fun h_6 => ?_)
      · have hf := hf.1 h_6
        exact kx54 _ _ _ hf _ _ _ hP hD hS (lv_sub hl [1] rfl)
      · have hf := hf.2 h_6
        refine lv_iconst (v := 0) S.1 S.2.1 dX1_playsNow_17 rfl ?_
        refine lv_istore_n (lv' := [(3, .int (0 : Int32)), (0, .ref (eA E b 0)), (1, .int x1_1), (2, .int x2_2)]) S.1 S.2.1 dX1_playsNow_18 rfl hl (by decide) rfl (fun ls hl => ?_)
        obtain ⟨n_24, hf⟩ := hf
        have L19 : ∀ (x2_8 : Int32), ∀ (K48 : Int32 → MI → MJ → Prop), (∀ (x1_20 : Int32) (I_21 : MI) (J_22 : MJ), K48 x1_20 I_21 J_22 → Wj p l e (rmX1_playsNow) s m args below meth c Qm E ps 4 I_21 J_22 48 [(0, .ref (eA E b 0)), (1, .int x1_20), (2, .int x2_8)] []) → ∀ (n : Nat) (x1_7 : Int32) (x3_9 : Int32) (I_10 : MI) (J_11 : MJ), f_X1_playsNow_L19 b x2_8 K48 n x1_7 x3_9 I_10 J_11 → Wj p l e (rmX1_playsNow) s m args below meth c Qm E ps 4 I_10 J_11 19 [(0, .ref (eA E b 0)), (1, .int x1_7), (2, .int x2_8), (3, .int x3_9)] [] := by
          intro x2_8 K48 kx48 n
          induction n with
          | zero => intro x1_7 x3_9 I_10 J_11 hf; exact hf.elim
          | succ n ih19 =>
            intro x1_7 x3_9 I_10 J_11 hf
            have hf : f_X1_playsNow_B19 b x2_8 K48 (f_X1_playsNow_L19 b x2_8 K48 n) x1_7 x3_9 I_10 J_11 := hf
            intro H locs ls hP hD hS hl
            unfold f_X1_playsNow_B19 at hf
            refine lv_iload_n S.1 S.2.1 dX1_playsNow_19 rfl (lv_at hl 3 rfl) ?_
            refine lv_aload_n S.1 S.2.1 dX1_playsNow_20 rfl (lv_at hl 0 rfl) ?_
            refine gfX1_0 S iX1 hK hP hB (hM 0 (by decide)) k3 dX1_playsNow_21 ?_
            refine gfX4_3 S iX4 hK hP hB (hM 1 (by decide)) k4 dX1_playsNow_24 ?_
            refine lv_icmp_ge (tgt := 48) S.1 S.2.1 dX1_playsNow_27 (by decide) (fun h_12 => ?_) (fun h_12 => ?_)
            · have hf := hf.1 h_12
              exact kx48 _ _ _ hf _ _ _ hP hD hS (lv_sub hl [0, 1, 2] rfl)
            · have hf := hf.2 h_12
              refine lv_aload_n S.1 S.2.1 dX1_playsNow_30 rfl (lv_at hl 0 rfl) ?_
              refine lv_iload_n S.1 S.2.1 dX1_playsNow_31 rfl (lv_at hl 2 rfl) ?_
              refine lv_iload_n S.1 S.2.1 dX1_playsNow_32 rfl (lv_at hl 3 rfl) ?_
              refine R_cVi (As := [.int x2_8, .int x3_9]) (rest := []) S (c_X1_obstacleNow (hB := hB) (hM := hM)  hf) gX1_playsNow_X1_obstacleNow rfl yk_X1_obstacleNow ⟨⟨Nat.le_of_ble_eq_true rfl, Nat.le_of_ble_eq_true rfl⟩, rfl, rfl⟩ hK hP hD hS hX hA (hM 0 (by decide)) (cF_g E hB _ _ 0) rfl rfl hl.1 rfl (Nat.le_of_ble_eq_true rfl) ⟨Nat.zero_le _, Nat.zero_le _⟩ dX1_playsNow_33 (fun v_15 I_13 J_14 H locs hf hP hD hS => ?_)
              refine lv_if_ne (tgt := 42) S.1 S.2.1 dX1_playsNow_36 (by decide) (fun h_16 => ?_) (fun h_16 => ?_)
              · have hf := hf.2 h_16
                refine nm_o hf (fun x3_17 ex3_17 hf => ?_)
                refine lv_iinc (v := x3_17) (lv' := [(3, .int x3_17), (0, .ref (eA E b 0)), (1, .int x1_7), (2, .int x2_8)]) S.1 S.2.1 dX1_playsNow_42 hl (k := 3) rfl (by rw [ex3_17]; rfl) (by decide) rfl (fun ls hl => ?_)
                refine lv_goto (tgt := 19) S.1 S.2.1 dX1_playsNow_45 (by decide) ?_
                exact ih19 _ _ _ _ hf _ _ _ hP hD hS (lv_sub hl [1, 2, 3, 0] rfl)
              · have hf := hf.1 h_16
                refine nm_o hf (fun x1_18 ex1_18 hf => ?_)
                refine lv_iinc (v := x1_18) (lv' := [(1, .int x1_18), (0, .ref (eA E b 0)), (2, .int x2_8), (3, .int x3_9)]) S.1 S.2.1 dX1_playsNow_39 hl (k := 1) rfl (by rw [ex1_18]; rfl) (by decide) rfl (fun ls hl => ?_)
                refine nm_o hf (fun x3_19 ex3_19 hf => ?_)
                refine lv_iinc (v := x3_19) (lv' := [(3, .int x3_19), (1, .int x1_18), (0, .ref (eA E b 0)), (2, .int x2_8)]) S.1 S.2.1 dX1_playsNow_42 hl (k := 3) rfl (by rw [ex3_19]; rfl) (by decide) rfl (fun ls hl => ?_)
                refine lv_goto (tgt := 19) S.1 S.2.1 dX1_playsNow_45 (by decide) ?_
                exact ih19 _ _ _ _ hf _ _ _ hP hD hS (lv_sub hl [2, 1, 3, 0] rfl)
        refine L19 _ _ (fun x1_20 I_21 J_22 hf H locs ls hP hD hS hl => ?_)  n_24 _ _ _ _ hf _ _ _ hP hD hS (lv_sub hl [1, 2, 3, 0] rfl)
        refine nm_o hf (fun x2_23 ex2_23 hf => ?_)
        refine lv_iinc (v := x2_23) (lv' := [(2, .int x2_23), (0, .ref (eA E b 0)), (1, .int x1_20)]) S.1 S.2.1 dX1_playsNow_48 hl (k := 2) rfl (by rw [ex2_23]; rfl) (by decide) rfl (fun ls hl => ?_)
        refine lv_goto (tgt := 4) S.1 S.2.1 dX1_playsNow_51 (by decide) ?_
        exact ih4 _ _ _ _ hf _ _ _ hP hD hS (lv_sub hl [1, 2, 0] rfl)
  refine L4 _ (fun x1_25 I_26 J_27 hf H locs ls hP hD hS hl => ?_)  n_28 _ _ _ _ hf _ _ _ hP hD hS (lv_sub hl [2, 1, 0] rfl)
  refine lv_iload_n S.1 S.2.1 dX1_playsNow_54 rfl (lv_at hl 0 rfl) ?_
  exact hret hf rfl hP hD hS dX1_playsNow_55
abbrev rmX1_passTurn : Room := { frames := 3, cells := 0, slots := 0, locals := 63 }
theorem yk_X1_passTurn : yOk yX1_passTurn RX1 0 := by unfold yOk; decide +kernel
def f_X1_passTurn_J30 (b : Nat) (Q : MI → MJ → Prop) (s_3 : Int32) (I_4 : MI) (J_5 : MJ) : Prop :=
  f_X1_endTurn b s_3 I_4 J_5 (fun (I_6 : MI) (J_7 : MJ) => Q I_6 J_7)
def f_X1_passTurn (b : Nat) (I : MI) (J : MJ) (Q : MI → MJ → Prop) : Prop :=
  ∀ I_1 : MI, I_1 = sI I b 0 10 ((I b 0 10) + (1 : Int32)) → (((I_1 b 0 10) < (I_1 b 1 4) → f_X1_passTurn_J30 b Q (0 : Int32) I_1 J) ∧ (¬ (I_1 b 0 10) < (I_1 b 1 4) → f_X1_passTurn_J30 b Q (1 : Int32) I_1 J))
set_option maxRecDepth 100000 in
set_option maxHeartbeats 4000000 in
theorem c_X1_passTurn {l : Launch} {E : EV} {ps : List (Nat × Nat)} {b : Nat} (hB : b < 11) (hM : ∀ r, r < 16 → (b, r) ∈ ps) {I : MI} {J : MJ} {Q : MI → MJ → Prop} (hf : f_X1_passTurn b I J Q) : KV l yX1_passTurn wsX1_passTurn rmX1_passTurn E ps [.ref (eA E b 0)] I J Q := by
  refine K_ofV (cc := cX1_passTurn) (maxL := 1) (by decide +kernel) rfl (Nat.le_of_ble_eq_true rfl) (fun p e s m args below meth c Qm hret S hK hX => ?_)
  have hA : ∀ q, s.heap.size ≤ q → AA E ps s.heap.size q := fun _ h => Or.inr h
  have k1 := S.2.2.2.2 (.fieldLink RX1 66 "RhymeRoofs$Game" "passes" "I") (by decide +kernel)
  have iX1 : ∀ w ∈ wsX10, w ∈ wsX1_passTurn := fun _ h => List.mem_cons_of_mem _ (List.mem_append_left _ (List.mem_append_right _ h))
  have k2 := S.2.2.2.2 (.fieldLink RX1 12 "RhymeRoofs$Game" "rules" "LRhymeRoofs$Rules;") (by decide +kernel)
  have k3 := S.2.2.2.2 (.fieldLink RX1 86 "RhymeRoofs$Rules" "players" "I") (by decide +kernel)
  have iX4 : ∀ w ∈ wsX40, w ∈ wsX1_passTurn := fun _ h => List.mem_cons_of_mem _ (List.mem_append_right _ h)
  have jn30 : ∀ (s_3 : Int32) (I_4 : MI) (J_5 : MJ), f_X1_passTurn_J30 b Q s_3 I_4 J_5 → Wj p l e (rmX1_passTurn) s m args below meth c Qm E ps 1 I_4 J_5 30 [] [.int s_3, .ref (eA E b 0)] := by
    intro s_3 I_4 J_5 hf H locs ls hP hD hS hl
    unfold f_X1_passTurn_J30 at hf
    refine R_cVv (As := [.int s_3]) (rest := []) S (c_X1_endTurn (hB := hB) (hM := hM)  hf) gX1_passTurn_X1_endTurn rfl yk_X1_endTurn ⟨⟨Nat.le_of_ble_eq_true rfl, Nat.le_of_ble_eq_true rfl⟩, rfl, rfl⟩ hK hP hD hS hX hA (hM 0 (by decide)) (cF_g E hB _ _ 0) rfl rfl hl.1 rfl (Nat.le_of_ble_eq_true rfl) ⟨Nat.zero_le _, Nat.zero_le _⟩ dX1_passTurn_30 (fun I_6 J_7 H locs hf hP hD hS => ?_)
    exact hret hf hP hD hS dX1_passTurn_33
  intro H locs ls hP hD hS hl
  unfold f_X1_passTurn at hf
  refine lv_aload_n S.1 S.2.1 dX1_passTurn_0 rfl (lv_at hl 0 rfl) ?_
  refine lv_dup S.1 S.2.1 dX1_passTurn_1 rfl ?_
  refine gfX1_10 S iX1 hK hP hB (hM 0 (by decide)) k1 dX1_passTurn_2 ?_
  refine lv_iconst (v := 1) S.1 S.2.1 dX1_passTurn_5 rfl ?_
  refine lv_iadd S.1 S.2.1 dX1_passTurn_6 ?_
  refine nm_o hf (fun I_1 eI_1 hf => ?_)
  refine pfX1_10 S iX1 hK hP hD hS hB (hM 0 (by decide)) k1 dX1_passTurn_7 eI_1 (fun H locs hP hD hS => ?_)
  refine lv_aload_n S.1 S.2.1 dX1_passTurn_10 rfl (lv_at hl 0 rfl) ?_
  refine lv_aload_n S.1 S.2.1 dX1_passTurn_11 rfl (lv_at hl 0 rfl) ?_
  refine gfX1_10 S iX1 hK hP hB (hM 0 (by decide)) k1 dX1_passTurn_12 ?_
  refine lv_aload_n S.1 S.2.1 dX1_passTurn_15 rfl (lv_at hl 0 rfl) ?_
  refine gfX1_0 S iX1 hK hP hB (hM 0 (by decide)) k2 dX1_passTurn_16 ?_
  refine gfX4_4 S iX4 hK hP hB (hM 1 (by decide)) k3 dX1_passTurn_19 ?_
  refine lv_icmp_lt (tgt := 29) S.1 S.2.1 dX1_passTurn_22 (by decide) (fun h_2 => ?_) (fun h_2 => ?_)
  · have hf := hf.1 h_2
    refine lv_iconst (v := 0) S.1 S.2.1 dX1_passTurn_29 rfl ?_
    exact jn30 _ _ _ hf _ _ _ hP hD hS (lv_sub hl [] rfl)
  · have hf := hf.2 h_2
    refine lv_iconst (v := 1) S.1 S.2.1 dX1_passTurn_25 rfl ?_
    refine lv_goto (tgt := 30) S.1 S.2.1 dX1_passTurn_26 (by decide) ?_
    exact jn30 _ _ _ hf _ _ _ hP hD hS (lv_sub hl [] rfl)
abbrev rmX1_layWord : Room := { frames := 3, cells := 0, slots := 0, locals := 72 }
theorem yk_X1_layWord : yOk yX1_layWord RX1 2 := by unfold yOk; decide +kernel
def f_X1_layWord_J92 (b : Nat) (Q : Int32 → MI → MJ → Prop) (x5_26 : Int32) (s_27 : Int32) (I_28 : MI) (J_29 : MJ) : Prop :=
  f_X1_endTurn b s_27 I_28 J_29 (fun (I_30 : MI) (J_31 : MJ) => Q x5_26 I_30 J_31)
def f_X1_layWord (b : Nat) (x1 : Int32) (x2 : Int32) (I : MI) (J : MJ) (Q : Int32 → MI → MJ → Prop) : Prop :=
  f_X1_wordOf b (I b 0 9) x1 I J (fun (v_3 : Int64) (I_1 : MI) (J_2 : MJ) => f_X1_pointsFor b v_3 x2 I_1 J_2 (fun (v_6 : Int32) (I_4 : MI) (J_5 : MJ) => f_X1_putLetters b v_3 x2 I_4 J_5 (fun (I_7 : MI) (J_8 : MJ) => (vp_in x2 6 ∧ (vp_in x2 6 ∧ ∀ I_11 : MI, I_11 = sI I_7 b 9 x2.toNatClampNeg ((I_7 b 9 x2.toNatClampNeg) + (1 : Int32)) → (vp_in x2 6 ∧ ∀ J_13 : MJ, J_13 = sJ J_8 b 10 x2.toNatClampNeg v_3 → (vp_in x2 6 ∧ ∀ I_15 : MI, I_15 = sI I_11 b 11 x2.toNatClampNeg (I_11 b 0 9) → (vp_in (I_15 b 0 9) 4 ∧ (vp_in (I_15 b 0 9) 4 ∧ ∀ I_18 : MI, I_18 = sI I_15 b 14 (I_15 b 0 9).toNatClampNeg ((I_15 b 14 (I_15 b 0 9).toNatClampNeg) + v_6) → f_X1_removeWord b (I_18 b 0 9) x1 I_18 J_13 (fun (I_19 : MI) (J_20 : MJ) => ∀ I_21 : MI, I_21 = sI I_19 b 0 10 (0 : Int32) → f_X1_wordsOfHands b I_21 J_20 (fun (v_24 : Int32) (I_22 : MI) (J_23 : MJ) => ((v_24 = (0 : Int32) → f_X1_layWord_J92 b Q v_6 (1 : Int32) I_22 J_23) ∧ (¬ v_24 = (0 : Int32) → f_X1_layWord_J92 b Q v_6 (0 : Int32) I_22 J_23)))))))))))))
set_option maxRecDepth 100000 in
set_option maxHeartbeats 4000000 in
theorem c_X1_layWord {l : Launch} {E : EV} {ps : List (Nat × Nat)} {b : Nat} (hB : b < 11) (hM : ∀ r, r < 16 → (b, r) ∈ ps) {x1 : Int32} {x2 : Int32} {I : MI} {J : MJ} {Q : Int32 → MI → MJ → Prop} (hf : f_X1_layWord b x1 x2 I J Q) : KI l yX1_layWord wsX1_layWord rmX1_layWord E ps [.ref (eA E b 0), .int x1, .int x2] I J Q := by
  refine K_ofI (cc := cX1_layWord) (maxL := 6) (ty := .int) (by decide +kernel) rfl (Nat.le_of_ble_eq_true rfl) (fun p e s m args below meth c Qm hret S hK hX => ?_)
  have hA : ∀ q, s.heap.size ≤ q → AA E ps s.heap.size q := fun _ h => Or.inr h
  have k1 := S.2.2.2.2 (.fieldLink RX1 62 "RhymeRoofs$Game" "turn" "I") (by decide +kernel)
  have iX1 : ∀ w ∈ wsX10, w ∈ wsX1_layWord := fun _ h => List.mem_cons_of_mem _ (List.mem_append_left _ (List.mem_append_right _ h))
  have k2 := S.2.2.2.2 (.fieldLink RX1 25 "RhymeRoofs$Game" "wordsOn" "[I") (by decide +kernel)
  have k3 := S.2.2.2.2 (.fieldLink RX1 28 "RhymeRoofs$Game" "lastOn" "[J") (by decide +kernel)
  have k4 := S.2.2.2.2 (.fieldLink RX1 32 "RhymeRoofs$Game" "ownerOf" "[I") (by decide +kernel)
  have k5 := S.2.2.2.2 (.fieldLink RX1 41 "RhymeRoofs$Game" "points" "[I") (by decide +kernel)
  have k6 := S.2.2.2.2 (.fieldLink RX1 66 "RhymeRoofs$Game" "passes" "I") (by decide +kernel)
  have jn92 : ∀ (x5_26 : Int32) (s_27 : Int32) (I_28 : MI) (J_29 : MJ), f_X1_layWord_J92 b Q x5_26 s_27 I_28 J_29 → Wj p l e (rmX1_layWord) s m args below meth c Qm E ps 6 I_28 J_29 92 [(5, .int x5_26)] [.int s_27, .ref (eA E b 0)] := by
    intro x5_26 s_27 I_28 J_29 hf H locs ls hP hD hS hl
    unfold f_X1_layWord_J92 at hf
    refine R_cVv (As := [.int s_27]) (rest := []) S (c_X1_endTurn (hB := hB) (hM := hM)  hf) gX1_layWord_X1_endTurn rfl yk_X1_endTurn ⟨⟨Nat.le_of_ble_eq_true rfl, Nat.le_of_ble_eq_true rfl⟩, rfl, rfl⟩ hK hP hD hS hX hA (hM 0 (by decide)) (cF_g E hB _ _ 0) rfl rfl hl.1 rfl (Nat.le_of_ble_eq_true rfl) ⟨Nat.zero_le _, Nat.zero_le _⟩ dX1_layWord_92 (fun I_30 J_31 H locs hf hP hD hS => ?_)
    refine lv_iload S.1 S.2.1 dX1_layWord_95 (lv_at hl 0 rfl) ?_
    exact hret hf rfl hP hD hS dX1_layWord_97
  intro H locs ls hP hD hS hl
  unfold f_X1_layWord at hf
  refine lv_aload_n S.1 S.2.1 dX1_layWord_0 rfl (lv_at hl 0 rfl) ?_
  refine lv_aload_n S.1 S.2.1 dX1_layWord_1 rfl (lv_at hl 0 rfl) ?_
  refine gfX1_9 S iX1 hK hP hB (hM 0 (by decide)) k1 dX1_layWord_2 ?_
  refine lv_iload_n S.1 S.2.1 dX1_layWord_5 rfl (lv_at hl 1 rfl) ?_
  refine R_cVl (As := [.int (I b 0 9), .int x1]) (rest := []) S (c_X1_wordOf (hB := hB) (hM := hM)  hf) gX1_layWord_X1_wordOf rfl yk_X1_wordOf ⟨⟨Nat.le_of_ble_eq_true rfl, Nat.le_of_ble_eq_true rfl⟩, rfl, rfl⟩ hK hP hD hS hX hA (hM 0 (by decide)) (cF_g E hB _ _ 0) rfl rfl hl.1 rfl (Nat.le_of_ble_eq_true rfl) ⟨Nat.zero_le _, Nat.zero_le _⟩ dX1_layWord_6 (fun v_3 I_1 J_2 H locs hf hP hD hS => ?_)
  refine lv_lstore_n (lv' := [(3, .long v_3), (0, .ref (eA E b 0)), (1, .int x1), (2, .int x2)]) S.1 S.2.1 dX1_layWord_9 rfl hl (by decide) rfl (fun ls hl => ?_)
  refine lv_aload_n S.1 S.2.1 dX1_layWord_10 rfl (lv_at hl 1 rfl) ?_
  refine lv_lload_n S.1 S.2.1 dX1_layWord_11 rfl (lv_at hl 0 rfl) ?_
  refine lv_iload_n S.1 S.2.1 dX1_layWord_12 rfl (lv_at hl 3 rfl) ?_
  refine R_cVi (As := [.long v_3, .int x2]) (rest := []) S (c_X1_pointsFor (hB := hB) (hM := hM)  hf) gX1_layWord_X1_pointsFor rfl yk_X1_pointsFor ⟨⟨Nat.le_of_ble_eq_true rfl, Nat.le_of_ble_eq_true rfl⟩, rfl, rfl⟩ hK hP hD hS hX hA (hM 0 (by decide)) (cF_g E hB _ _ 0) rfl rfl hl.1 rfl (Nat.le_of_ble_eq_true rfl) ⟨Nat.zero_le _, Nat.zero_le _⟩ dX1_layWord_13 (fun v_6 I_4 J_5 H locs hf hP hD hS => ?_)
  refine lv_istore (lv' := [(5, .int v_6), (3, .long v_3), (0, .ref (eA E b 0)), (1, .int x1), (2, .int x2)]) S.1 S.2.1 dX1_layWord_16 hl (by decide) rfl (fun ls hl => ?_)
  refine lv_aload_n S.1 S.2.1 dX1_layWord_18 rfl (lv_at hl 2 rfl) ?_
  refine lv_lload_n S.1 S.2.1 dX1_layWord_19 rfl (lv_at hl 1 rfl) ?_
  refine lv_iload_n S.1 S.2.1 dX1_layWord_20 rfl (lv_at hl 4 rfl) ?_
  refine R_cVv (As := [.long v_3, .int x2]) (rest := []) S (c_X1_putLetters (hB := hB) (hM := hM)  hf) gX1_layWord_X1_putLetters rfl yk_X1_putLetters ⟨⟨Nat.le_of_ble_eq_true rfl, Nat.le_of_ble_eq_true rfl⟩, rfl, rfl⟩ hK hP hD hS hX hA (hM 0 (by decide)) (cF_g E hB _ _ 0) rfl rfl hl.1 rfl (Nat.le_of_ble_eq_true rfl) ⟨Nat.zero_le _, Nat.zero_le _⟩ dX1_layWord_21 (fun I_7 J_8 H locs hf hP hD hS => ?_)
  refine lv_aload_n S.1 S.2.1 dX1_layWord_24 rfl (lv_at hl 2 rfl) ?_
  refine gfX1_3 S iX1 hK hP hB (hM 0 (by decide)) k2 dX1_layWord_25 ?_
  refine lv_iload_n S.1 S.2.1 dX1_layWord_28 rfl (lv_at hl 4 rfl) ?_
  refine lv_dup2_11 S.1 S.2.1 dX1_layWord_29 rfl rfl ?_
  obtain ⟨h_9, hf⟩ := hf
  refine R_iald S.1 S.2.1 hK hP (hM 9 (by decide)) (IAg9 E hB) h_9 dX1_layWord_30 ?_
  refine lv_iconst (v := 1) S.1 S.2.1 dX1_layWord_31 rfl ?_
  refine lv_iadd S.1 S.2.1 dX1_layWord_32 ?_
  obtain ⟨h_10, hf⟩ := hf
  refine nm_o hf (fun I_11 eI_11 hf => ?_)
  refine R_iast S.1 S.2.1 hK hP hD hS (hM 9 (by decide)) (IAg9 E hB) h_10 dX1_layWord_33 eI_11 (fun H locs hP hD hS => ?_)
  refine lv_aload_n S.1 S.2.1 dX1_layWord_34 rfl (lv_at hl 2 rfl) ?_
  refine gfX1_4 S iX1 hK hP hB (hM 0 (by decide)) k3 dX1_layWord_35 ?_
  refine lv_iload_n S.1 S.2.1 dX1_layWord_38 rfl (lv_at hl 4 rfl) ?_
  refine lv_lload_n S.1 S.2.1 dX1_layWord_39 rfl (lv_at hl 1 rfl) ?_
  obtain ⟨h_12, hf⟩ := hf
  refine nm_o hf (fun J_13 eJ_13 hf => ?_)
  refine R_last S.1 S.2.1 hK hP hD hS (hM 10 (by decide)) (LAg10 E hB) h_12 dX1_layWord_40 eJ_13 (fun H locs hP hD hS => ?_)
  refine lv_aload_n S.1 S.2.1 dX1_layWord_41 rfl (lv_at hl 2 rfl) ?_
  refine gfX1_5 S iX1 hK hP hB (hM 0 (by decide)) k4 dX1_layWord_42 ?_
  refine lv_iload_n S.1 S.2.1 dX1_layWord_45 rfl (lv_at hl 4 rfl) ?_
  refine lv_aload_n S.1 S.2.1 dX1_layWord_46 rfl (lv_at hl 2 rfl) ?_
  refine gfX1_9 S iX1 hK hP hB (hM 0 (by decide)) k1 dX1_layWord_47 ?_
  obtain ⟨h_14, hf⟩ := hf
  refine nm_o hf (fun I_15 eI_15 hf => ?_)
  refine R_iast S.1 S.2.1 hK hP hD hS (hM 11 (by decide)) (IAg11 E hB) h_14 dX1_layWord_50 eI_15 (fun H locs hP hD hS => ?_)
  refine lv_aload_n S.1 S.2.1 dX1_layWord_51 rfl (lv_at hl 2 rfl) ?_
  refine gfX1_8 S iX1 hK hP hB (hM 0 (by decide)) k5 dX1_layWord_52 ?_
  refine lv_aload_n S.1 S.2.1 dX1_layWord_55 rfl (lv_at hl 2 rfl) ?_
  refine gfX1_9 S iX1 hK hP hB (hM 0 (by decide)) k1 dX1_layWord_56 ?_
  refine lv_dup2_11 S.1 S.2.1 dX1_layWord_59 rfl rfl ?_
  obtain ⟨h_16, hf⟩ := hf
  refine R_iald S.1 S.2.1 hK hP (hM 14 (by decide)) (IAg14 E hB) h_16 dX1_layWord_60 ?_
  refine lv_iload S.1 S.2.1 dX1_layWord_61 (lv_at hl 0 rfl) ?_
  refine lv_iadd S.1 S.2.1 dX1_layWord_63 ?_
  obtain ⟨h_17, hf⟩ := hf
  refine nm_o hf (fun I_18 eI_18 hf => ?_)
  refine R_iast S.1 S.2.1 hK hP hD hS (hM 14 (by decide)) (IAg14 E hB) h_17 dX1_layWord_64 eI_18 (fun H locs hP hD hS => ?_)
  refine lv_aload_n S.1 S.2.1 dX1_layWord_65 rfl (lv_at hl 2 rfl) ?_
  refine lv_aload_n S.1 S.2.1 dX1_layWord_66 rfl (lv_at hl 2 rfl) ?_
  refine gfX1_9 S iX1 hK hP hB (hM 0 (by decide)) k1 dX1_layWord_67 ?_
  refine lv_iload_n S.1 S.2.1 dX1_layWord_70 rfl (lv_at hl 3 rfl) ?_
  refine R_cVv (As := [.int (I_18 b 0 9), .int x1]) (rest := []) S (c_X1_removeWord (hB := hB) (hM := hM)  hf) gX1_layWord_X1_removeWord rfl yk_X1_removeWord ⟨⟨Nat.le_of_ble_eq_true rfl, Nat.le_of_ble_eq_true rfl⟩, rfl, rfl⟩ hK hP hD hS hX hA (hM 0 (by decide)) (cF_g E hB _ _ 0) rfl rfl hl.1 rfl (Nat.le_of_ble_eq_true rfl) ⟨Nat.zero_le _, Nat.zero_le _⟩ dX1_layWord_71 (fun I_19 J_20 H locs hf hP hD hS => ?_)
  refine lv_aload_n S.1 S.2.1 dX1_layWord_74 rfl (lv_at hl 2 rfl) ?_
  refine lv_iconst (v := 0) S.1 S.2.1 dX1_layWord_75 rfl ?_
  refine nm_o hf (fun I_21 eI_21 hf => ?_)
  refine pfX1_10 S iX1 hK hP hD hS hB (hM 0 (by decide)) k6 dX1_layWord_76 eI_21 (fun H locs hP hD hS => ?_)
  refine lv_aload_n S.1 S.2.1 dX1_layWord_79 rfl (lv_at hl 2 rfl) ?_
  refine lv_aload_n S.1 S.2.1 dX1_layWord_80 rfl (lv_at hl 2 rfl) ?_
  refine R_cVi (As := []) (rest := [.ref (eA E b 0)]) S (c_X1_wordsOfHands (hB := hB) (hM := hM)  hf) gX1_layWord_X1_wordsOfHands rfl yk_X1_wordsOfHands ⟨⟨Nat.le_of_ble_eq_true rfl, Nat.le_of_ble_eq_true rfl⟩, rfl, rfl⟩ hK hP hD hS hX hA (hM 0 (by decide)) (cF_g E hB _ _ 0) rfl rfl hl.1 rfl (Nat.le_of_ble_eq_true rfl) ⟨Nat.zero_le _, Nat.zero_le _⟩ dX1_layWord_81 (fun v_24 I_22 J_23 H locs hf hP hD hS => ?_)
  refine lv_if_ne (tgt := 91) S.1 S.2.1 dX1_layWord_84 (by decide) (fun h_25 => ?_) (fun h_25 => ?_)
  · have hf := hf.2 h_25
    refine lv_iconst (v := 0) S.1 S.2.1 dX1_layWord_91 rfl ?_
    exact jn92 _ _ _ _ hf _ _ _ hP hD hS (lv_sub hl [0] rfl)
  · have hf := hf.1 h_25
    refine lv_iconst (v := 1) S.1 S.2.1 dX1_layWord_87 rfl ?_
    refine lv_goto (tgt := 92) S.1 S.2.1 dX1_layWord_88 (by decide) ?_
    exact jn92 _ _ _ _ hf _ _ _ hP hD hS (lv_sub hl [0] rfl)
