abbrev rmX7_checksum : Room := { frames := 5, cells := 0, slots := 0, locals := 118 }
theorem yk_X7_checksum : yOk yX7_checksum RX7 0 := by unfold yOk; decide +kernel
def f_X7_checksum_B4 (K32 : Int64 → MI → MJ → Prop) (rec4 : Int64 → Int32 → MI → MJ → Prop) (x1_1 : Int64) (x3_2 : Int32) (I_3 : MI) (J_4 : MJ) : Prop :=
  (((12 : Int32) ≤ x3_2 → K32 x1_1 I_3 J_4) ∧ (¬ (12 : Int32) ≤ x3_2 → f_X1_stateNumber 0 x3_2 I_3 J_4 (fun (v_8 : Int32) (I_6 : MI) (J_7 : MJ) => ∀ x1_9 : Int64, x1_9 = (((31 : Int64) * x1_1) + (v_8.toInt64)) → ∀ x3_10 : Int32, x3_10 = x3_2 + (1 : Int32) → rec4 x1_9 x3_10 I_6 J_7)))
def f_X7_checksum_L4 (K32 : Int64 → MI → MJ → Prop) : Nat → Int64 → Int32 → MI → MJ → Prop
  | 0, _, _, _, _ => False
  | n + 1, x1_1, x3_2, I_3, J_4 => f_X7_checksum_B4 K32 (f_X7_checksum_L4 K32 n) x1_1 x3_2 I_3 J_4
def f_X7_checksum_B34 (K61 : Int64 → MI → MJ → Prop) (rec34 : Int64 → Int32 → MI → MJ → Prop) (x1_14 : Int64) (x3_15 : Int32) (I_16 : MI) (J_17 : MJ) : Prop :=
  (((I_16 0 1 3) ≤ x3_15 → K61 x1_14 I_16 J_17) ∧ (¬ (I_16 0 1 3) ≤ x3_15 → f_X7_sumOfRow x1_14 x3_15 I_16 J_17 (fun (v_21 : Int64) (I_19 : MI) (J_20 : MJ) => ∀ x3_22 : Int32, x3_22 = x3_15 + (1 : Int32) → rec34 v_21 x3_22 I_19 J_20)))
def f_X7_checksum_L34 (K61 : Int64 → MI → MJ → Prop) : Nat → Int64 → Int32 → MI → MJ → Prop
  | 0, _, _, _, _ => False
  | n + 1, x1_14, x3_15, I_16, J_17 => f_X7_checksum_B34 K61 (f_X7_checksum_L34 K61 n) x1_14 x3_15 I_16 J_17
def f_X7_checksum_B63 (K90 : Int64 → MI → MJ → Prop) (rec63 : Int64 → Int32 → MI → MJ → Prop) (x1_26 : Int64) (x3_27 : Int32) (I_28 : MI) (J_29 : MJ) : Prop :=
  (((I_28 0 1 4) ≤ x3_27 → K90 x1_26 I_28 J_29) ∧ (¬ (I_28 0 1 4) ≤ x3_27 → f_X7_sumOfPlayer x1_26 x3_27 I_28 J_29 (fun (v_33 : Int64) (I_31 : MI) (J_32 : MJ) => ∀ x3_34 : Int32, x3_34 = x3_27 + (1 : Int32) → rec63 v_33 x3_34 I_31 J_32)))
def f_X7_checksum_L63 (K90 : Int64 → MI → MJ → Prop) : Nat → Int64 → Int32 → MI → MJ → Prop
  | 0, _, _, _, _ => False
  | n + 1, x1_26, x3_27, I_28, J_29 => f_X7_checksum_B63 K90 (f_X7_checksum_L63 K90 n) x1_26 x3_27 I_28 J_29
def f_X7_checksum (I : MI) (J : MJ) (Q : Int64 → MI → MJ → Prop) : Prop :=
  ∃ n : Nat, f_X7_checksum_L4 (fun (x1_11 : Int64) (I_12 : MI) (J_13 : MJ) => ∃ n : Nat, f_X7_checksum_L34 (fun (x1_23 : Int64) (I_24 : MI) (J_25 : MJ) => ∃ n : Nat, f_X7_checksum_L63 (fun (x1_35 : Int64) (I_36 : MI) (J_37 : MJ) => Q x1_35 I_36 J_37) n x1_23 (0 : Int32) I_24 J_25) n x1_11 (0 : Int32) I_12 J_13) n (0 : Int64) (0 : Int32) I J
set_option maxRecDepth 100000 in
set_option maxHeartbeats 4000000 in
theorem c_X7_checksum {l : Launch} {E : EV} {ps : List (Nat × Nat)} (h11 : ∀ r, r < 11 → (11, r) ∈ ps) (hG : ∀ k r, k < 11 → r < 16 → (k, r) ∈ ps) (hR : (eT E)[2]? = some (eG E, .object "RhymeRoofs$Game")) {I : MI} {J : MJ} {Q : Int64 → MI → MJ → Prop} (hf : f_X7_checksum I J Q) : KL l yX7_checksum wsX7_checksum rmX7_checksum E ps [.ref (eA E 11 0)] I J Q := by
  refine K_ofL (cc := cX7_checksum) (maxL := 4) (by decide +kernel) rfl (Nat.le_of_ble_eq_true rfl) (fun p e s m args below meth c Qm hret S hK hX => ?_)
  have hA : ∀ q, s.heap.size ≤ q → AA E ps s.heap.size q := fun _ h => Or.inr h
  have k1 := S.2.2.2.2 (.constantLong RX7 252 (31)) (by decide +kernel)
  have k2 := S.2.2.2.2 (.fieldLink RX7 23 "RhymeRoofs" "game" "LRhymeRoofs$Game;") (by decide +kernel)
  have iX7 : ∀ w ∈ wsX70, w ∈ wsX7_checksum := fun _ h => List.mem_cons_of_mem _ (List.mem_append_left _ (List.mem_append_left _ (List.mem_append_right _ h)))
  have k3 := S.2.2.2.2 (.fieldLink RX7 96 "RhymeRoofs$Game" "rules" "LRhymeRoofs$Rules;") (by decide +kernel)
  have iX1 : ∀ w ∈ wsX10, w ∈ wsX7_checksum := fun _ h => List.mem_cons_of_mem _ (List.mem_append_left _ (List.mem_append_right _ h))
  have k4 := S.2.2.2.2 (.fieldLink RX7 206 "RhymeRoofs$Rules" "rows" "I") (by decide +kernel)
  have iX4 : ∀ w ∈ wsX40, w ∈ wsX7_checksum := fun _ h => List.mem_cons_of_mem _ (List.mem_append_right _ h)
  have k5 := S.2.2.2.2 (.fieldLink RX7 192 "RhymeRoofs$Rules" "players" "I") (by decide +kernel)
  intro H locs ls hP hD hS hl
  unfold f_X7_checksum at hf
  refine lv_lconst (v := 0) S.1 S.2.1 dX7_checksum_0 rfl ?_
  refine lv_lstore_n (lv' := [(1, .long (0 : Int64)), (0, .ref (eA E 11 0))]) S.1 S.2.1 dX7_checksum_1 rfl hl (by decide) rfl (fun ls hl => ?_)
  refine lv_iconst (v := 0) S.1 S.2.1 dX7_checksum_2 rfl ?_
  refine lv_istore_n (lv' := [(3, .int (0 : Int32)), (1, .long (0 : Int64)), (0, .ref (eA E 11 0))]) S.1 S.2.1 dX7_checksum_3 rfl hl (by decide) rfl (fun ls hl => ?_)
  obtain ⟨n_40, hf⟩ := hf
  have L4 : ∀ (K32 : Int64 → MI → MJ → Prop), (∀ (x1_11 : Int64) (I_12 : MI) (J_13 : MJ), K32 x1_11 I_12 J_13 → Wj p l e (rmX7_checksum) s m args below meth c Qm E ps 4 I_12 J_13 32 [(0, .ref (eA E 11 0)), (1, .long x1_11)] []) → ∀ (n : Nat) (x1_1 : Int64) (x3_2 : Int32) (I_3 : MI) (J_4 : MJ), f_X7_checksum_L4 K32 n x1_1 x3_2 I_3 J_4 → Wj p l e (rmX7_checksum) s m args below meth c Qm E ps 4 I_3 J_4 4 [(0, .ref (eA E 11 0)), (1, .long x1_1), (3, .int x3_2)] [] := by
    intro K32 kx32 n
    induction n with
    | zero => intro x1_1 x3_2 I_3 J_4 hf; exact hf.elim
    | succ n ih4 =>
      intro x1_1 x3_2 I_3 J_4 hf
      have hf : f_X7_checksum_B4 K32 (f_X7_checksum_L4 K32 n) x1_1 x3_2 I_3 J_4 := hf
      intro H locs ls hP hD hS hl
      unfold f_X7_checksum_B4 at hf
      refine lv_iload_n S.1 S.2.1 dX7_checksum_4 rfl (lv_at hl 2 rfl) ?_
      refine lv_bipush (v := 12) S.1 S.2.1 dX7_checksum_5 rfl ?_
      refine lv_icmp_ge (tgt := 32) S.1 S.2.1 dX7_checksum_7 (by decide) (fun h_5 => ?_) (fun h_5 => ?_)
      · have hf := hf.1 h_5
        exact kx32 _ _ _ hf _ _ _ hP hD hS (lv_sub hl [0, 1] rfl)
      · have hf := hf.2 h_5
        refine lv_ldc2 (v := 31) S.1 S.2.1 S.2.2.2.1 k1 dX7_checksum_10 ?_
        refine lv_lload_n S.1 S.2.1 dX7_checksum_13 rfl (lv_at hl 1 rfl) ?_
        refine lv_lmul S.1 S.2.1 dX7_checksum_14 ?_
        refine lv_aload_n S.1 S.2.1 dX7_checksum_15 rfl (lv_at hl 0 rfl) ?_
        refine gfX7_3 S iX7 hK hP (h11 0 (by decide)) k2 dX7_checksum_16 ?_
        refine lv_iload_n S.1 S.2.1 dX7_checksum_19 rfl (lv_at hl 2 rfl) ?_
        refine R_cVi (As := [.int x3_2]) (rest := [.long ((31 : Int64) * x1_1)]) S (c_X1_stateNumber (hB := (by decide)) (hM := (fun r => hG 0 r (by decide)))  hf) gX7_checksum_X1_stateNumber rfl yk_X1_stateNumber ⟨⟨Nat.le_of_ble_eq_true rfl, Nat.le_of_ble_eq_true rfl⟩, rfl, rfl⟩ hK hP hD hS hX hA ((fun r => hG 0 r (by decide)) 0 (by decide)) (cF_g E (by decide) _ _ 0) rfl rfl hl.1 rfl (Nat.le_of_ble_eq_true rfl) ⟨Nat.zero_le _, Nat.zero_le _⟩ dX7_checksum_20 (fun v_8 I_6 J_7 H locs hf hP hD hS => ?_)
        refine lv_i2l S.1 S.2.1 dX7_checksum_23 rfl ?_
        refine lv_ladd S.1 S.2.1 dX7_checksum_24 ?_
        refine lv_topl (fun x1_9 ex1_9 => ?_)
        have hf := hf x1_9 ex1_9
        refine lv_lstore_n (lv' := [(1, .long x1_9), (0, .ref (eA E 11 0)), (3, .int x3_2)]) S.1 S.2.1 dX7_checksum_25 rfl hl (by decide) rfl (fun ls hl => ?_)
        refine nm_o hf (fun x3_10 ex3_10 hf => ?_)
        refine lv_iinc (v := x3_10) (lv' := [(3, .int x3_10), (1, .long x1_9), (0, .ref (eA E 11 0))]) S.1 S.2.1 dX7_checksum_26 hl (k := 2) rfl (by rw [ex3_10]; rfl) (by decide) rfl (fun ls hl => ?_)
        refine lv_goto (tgt := 4) S.1 S.2.1 dX7_checksum_29 (by decide) ?_
        exact ih4 _ _ _ _ hf _ _ _ hP hD hS (lv_sub hl [2, 1, 0] rfl)
  refine L4 _ (fun x1_11 I_12 J_13 hf H locs ls hP hD hS hl => ?_)  n_40 _ _ _ _ hf _ _ _ hP hD hS (lv_sub hl [2, 1, 0] rfl)
  refine lv_iconst (v := 0) S.1 S.2.1 dX7_checksum_32 rfl ?_
  refine lv_istore_n (lv' := [(3, .int (0 : Int32)), (0, .ref (eA E 11 0)), (1, .long x1_11)]) S.1 S.2.1 dX7_checksum_33 rfl hl (by decide) rfl (fun ls hl => ?_)
  obtain ⟨n_39, hf⟩ := hf
  have L34 : ∀ (K61 : Int64 → MI → MJ → Prop), (∀ (x1_23 : Int64) (I_24 : MI) (J_25 : MJ), K61 x1_23 I_24 J_25 → Wj p l e (rmX7_checksum) s m args below meth c Qm E ps 4 I_24 J_25 61 [(0, .ref (eA E 11 0)), (1, .long x1_23)] []) → ∀ (n : Nat) (x1_14 : Int64) (x3_15 : Int32) (I_16 : MI) (J_17 : MJ), f_X7_checksum_L34 K61 n x1_14 x3_15 I_16 J_17 → Wj p l e (rmX7_checksum) s m args below meth c Qm E ps 4 I_16 J_17 34 [(0, .ref (eA E 11 0)), (1, .long x1_14), (3, .int x3_15)] [] := by
    intro K61 kx61 n
    induction n with
    | zero => intro x1_14 x3_15 I_16 J_17 hf; exact hf.elim
    | succ n ih34 =>
      intro x1_14 x3_15 I_16 J_17 hf
      have hf : f_X7_checksum_B34 K61 (f_X7_checksum_L34 K61 n) x1_14 x3_15 I_16 J_17 := hf
      intro H locs ls hP hD hS hl
      unfold f_X7_checksum_B34 at hf
      refine lv_iload_n S.1 S.2.1 dX7_checksum_34 rfl (lv_at hl 2 rfl) ?_
      refine lv_aload_n S.1 S.2.1 dX7_checksum_35 rfl (lv_at hl 0 rfl) ?_
      refine gfX7_3 S iX7 hK hP (h11 0 (by decide)) k2 dX7_checksum_36 ?_
      refine gfX1_0 S iX1 hK hP (by decide) ((fun r => hG 0 r (by decide)) 0 (by decide)) k3 dX7_checksum_39 ?_
      refine gfX4_3 S iX4 hK hP (by decide) ((fun r => hG 0 r (by decide)) 1 (by decide)) k4 dX7_checksum_42 ?_
      refine lv_icmp_ge (tgt := 61) S.1 S.2.1 dX7_checksum_45 (by decide) (fun h_18 => ?_) (fun h_18 => ?_)
      · have hf := hf.1 h_18
        exact kx61 _ _ _ hf _ _ _ hP hD hS (lv_sub hl [0, 1] rfl)
      · have hf := hf.2 h_18
        refine lv_aload_n S.1 S.2.1 dX7_checksum_48 rfl (lv_at hl 0 rfl) ?_
        refine lv_lload_n S.1 S.2.1 dX7_checksum_49 rfl (lv_at hl 1 rfl) ?_
        refine lv_iload_n S.1 S.2.1 dX7_checksum_50 rfl (lv_at hl 2 rfl) ?_
        refine R_cVl (As := [.long x1_14, .int x3_15]) (rest := []) S (c_X7_sumOfRow (h11 := h11) (hG := hG) (hR := hR)  hf) gX7_checksum_X7_sumOfRow rfl yk_X7_sumOfRow ⟨⟨Nat.le_of_ble_eq_true rfl, Nat.le_of_ble_eq_true rfl⟩, rfl, rfl⟩ hK hP hD hS hX hA (h11 0 (by decide)) (cF_o E _ _ 0) rfl rfl hl.1 rfl (Nat.le_of_ble_eq_true rfl) ⟨Nat.zero_le _, Nat.zero_le _⟩ dX7_checksum_51 (fun v_21 I_19 J_20 H locs hf hP hD hS => ?_)
        refine lv_lstore_n (lv' := [(1, .long v_21), (0, .ref (eA E 11 0)), (3, .int x3_15)]) S.1 S.2.1 dX7_checksum_54 rfl hl (by decide) rfl (fun ls hl => ?_)
        refine nm_o hf (fun x3_22 ex3_22 hf => ?_)
        refine lv_iinc (v := x3_22) (lv' := [(3, .int x3_22), (1, .long v_21), (0, .ref (eA E 11 0))]) S.1 S.2.1 dX7_checksum_55 hl (k := 2) rfl (by rw [ex3_22]; rfl) (by decide) rfl (fun ls hl => ?_)
        refine lv_goto (tgt := 34) S.1 S.2.1 dX7_checksum_58 (by decide) ?_
        exact ih34 _ _ _ _ hf _ _ _ hP hD hS (lv_sub hl [2, 1, 0] rfl)
  refine L34 _ (fun x1_23 I_24 J_25 hf H locs ls hP hD hS hl => ?_)  n_39 _ _ _ _ hf _ _ _ hP hD hS (lv_sub hl [1, 2, 0] rfl)
  refine lv_iconst (v := 0) S.1 S.2.1 dX7_checksum_61 rfl ?_
  refine lv_istore_n (lv' := [(3, .int (0 : Int32)), (0, .ref (eA E 11 0)), (1, .long x1_23)]) S.1 S.2.1 dX7_checksum_62 rfl hl (by decide) rfl (fun ls hl => ?_)
  obtain ⟨n_38, hf⟩ := hf
  have L63 : ∀ (K90 : Int64 → MI → MJ → Prop), (∀ (x1_35 : Int64) (I_36 : MI) (J_37 : MJ), K90 x1_35 I_36 J_37 → Wj p l e (rmX7_checksum) s m args below meth c Qm E ps 4 I_36 J_37 90 [(1, .long x1_35)] []) → ∀ (n : Nat) (x1_26 : Int64) (x3_27 : Int32) (I_28 : MI) (J_29 : MJ), f_X7_checksum_L63 K90 n x1_26 x3_27 I_28 J_29 → Wj p l e (rmX7_checksum) s m args below meth c Qm E ps 4 I_28 J_29 63 [(0, .ref (eA E 11 0)), (1, .long x1_26), (3, .int x3_27)] [] := by
    intro K90 kx90 n
    induction n with
    | zero => intro x1_26 x3_27 I_28 J_29 hf; exact hf.elim
    | succ n ih63 =>
      intro x1_26 x3_27 I_28 J_29 hf
      have hf : f_X7_checksum_B63 K90 (f_X7_checksum_L63 K90 n) x1_26 x3_27 I_28 J_29 := hf
      intro H locs ls hP hD hS hl
      unfold f_X7_checksum_B63 at hf
      refine lv_iload_n S.1 S.2.1 dX7_checksum_63 rfl (lv_at hl 2 rfl) ?_
      refine lv_aload_n S.1 S.2.1 dX7_checksum_64 rfl (lv_at hl 0 rfl) ?_
      refine gfX7_3 S iX7 hK hP (h11 0 (by decide)) k2 dX7_checksum_65 ?_
      refine gfX1_0 S iX1 hK hP (by decide) ((fun r => hG 0 r (by decide)) 0 (by decide)) k3 dX7_checksum_68 ?_
      refine gfX4_4 S iX4 hK hP (by decide) ((fun r => hG 0 r (by decide)) 1 (by decide)) k5 dX7_checksum_71 ?_
      refine lv_icmp_ge (tgt := 90) S.1 S.2.1 dX7_checksum_74 (by decide) (fun h_30 => ?_) (fun h_30 => ?_)
      · have hf := hf.1 h_30
        exact kx90 _ _ _ hf _ _ _ hP hD hS (lv_sub hl [1] rfl)
      · have hf := hf.2 h_30
        refine lv_aload_n S.1 S.2.1 dX7_checksum_77 rfl (lv_at hl 0 rfl) ?_
        refine lv_lload_n S.1 S.2.1 dX7_checksum_78 rfl (lv_at hl 1 rfl) ?_
        refine lv_iload_n S.1 S.2.1 dX7_checksum_79 rfl (lv_at hl 2 rfl) ?_
        refine R_cVl (As := [.long x1_26, .int x3_27]) (rest := []) S (c_X7_sumOfPlayer (h11 := h11) (hG := hG) (hR := hR)  hf) gX7_checksum_X7_sumOfPlayer rfl yk_X7_sumOfPlayer ⟨⟨Nat.le_of_ble_eq_true rfl, Nat.le_of_ble_eq_true rfl⟩, rfl, rfl⟩ hK hP hD hS hX hA (h11 0 (by decide)) (cF_o E _ _ 0) rfl rfl hl.1 rfl (Nat.le_of_ble_eq_true rfl) ⟨Nat.zero_le _, Nat.zero_le _⟩ dX7_checksum_80 (fun v_33 I_31 J_32 H locs hf hP hD hS => ?_)
        refine lv_lstore_n (lv' := [(1, .long v_33), (0, .ref (eA E 11 0)), (3, .int x3_27)]) S.1 S.2.1 dX7_checksum_83 rfl hl (by decide) rfl (fun ls hl => ?_)
        refine nm_o hf (fun x3_34 ex3_34 hf => ?_)
        refine lv_iinc (v := x3_34) (lv' := [(3, .int x3_34), (1, .long v_33), (0, .ref (eA E 11 0))]) S.1 S.2.1 dX7_checksum_84 hl (k := 2) rfl (by rw [ex3_34]; rfl) (by decide) rfl (fun ls hl => ?_)
        refine lv_goto (tgt := 63) S.1 S.2.1 dX7_checksum_87 (by decide) ?_
        exact ih63 _ _ _ _ hf _ _ _ hP hD hS (lv_sub hl [2, 1, 0] rfl)
  refine L63 _ (fun x1_35 I_36 J_37 hf H locs ls hP hD hS hl => ?_)  n_38 _ _ _ _ hf _ _ _ hP hD hS (lv_sub hl [1, 2, 0] rfl)
  refine lv_lload_n S.1 S.2.1 dX7_checksum_90 rfl (lv_at hl 0 rfl) ?_
  exact hret hf hP hD hS dX7_checksum_91
abbrev rmX7_winner : Room := { frames := 6, cells := 0, slots := 0, locals := 148 }
theorem yk_X7_winner : yOk yX7_winner RX7 0 := by unfold yOk; decide +kernel
def f_X7_winner (I : MI) (J : MJ) (Q : Int32 → MI → MJ → Prop) : Prop :=
  f_X1_copyFrom 1 0 I J (fun (I_1 : MI) (J_2 : MJ) => f_X1_playOn 1 (1000000 : Int32) I_1 J_2 (fun (v_5 : Int32) (I_3 : MI) (J_4 : MJ) => f_X1_leader 1 I_3 J_4 (fun (v_8 : Int32) (I_6 : MI) (J_7 : MJ) => Q v_8 I_6 J_7)))
set_option maxRecDepth 100000 in
set_option maxHeartbeats 4000000 in
theorem c_X7_winner {l : Launch} {E : EV} {ps : List (Nat × Nat)} (h11 : ∀ r, r < 11 → (11, r) ∈ ps) (hG : ∀ k r, k < 11 → r < 16 → (k, r) ∈ ps) (hR : (eT E)[2]? = some (eG E, .object "RhymeRoofs$Game")) {I : MI} {J : MJ} {Q : Int32 → MI → MJ → Prop} (hf : f_X7_winner I J Q) : KI l yX7_winner wsX7_winner rmX7_winner E ps [.ref (eA E 11 0)] I J Q := by
  refine K_ofI (cc := cX7_winner) (maxL := 1) (ty := .int) (by decide +kernel) rfl (Nat.le_of_ble_eq_true rfl) (fun p e s m args below meth c Qm hret S hK hX => ?_)
  have hA : ∀ q, s.heap.size ≤ q → AA E ps s.heap.size q := fun _ h => Or.inr h
  have k1 := S.2.2.2.2 (.fieldLink RX7 27 "RhymeRoofs" "future" "LRhymeRoofs$Game;") (by decide +kernel)
  have iX7 : ∀ w ∈ wsX70, w ∈ wsX7_winner := fun _ h => List.mem_cons_of_mem _ (List.mem_append_left _ (List.mem_append_left _ (List.mem_append_left _ (List.mem_append_right _ h))))
  have k2 := S.2.2.2.2 (.fieldLink RX7 23 "RhymeRoofs" "game" "LRhymeRoofs$Game;") (by decide +kernel)
  have k3 := S.2.2.2.2 (.constant RX7 199 (1000000)) (by decide +kernel)
  intro H locs ls hP hD hS hl
  unfold f_X7_winner at hf
  refine lv_aload_n S.1 S.2.1 dX7_winner_0 rfl (lv_at hl 0 rfl) ?_
  refine gfX7_4 S iX7 hK hP (h11 0 (by decide)) k1 dX7_winner_1 ?_
  refine lv_aload_n S.1 S.2.1 dX7_winner_4 rfl (lv_at hl 0 rfl) ?_
  refine gfX7_3 S iX7 hK hP (h11 0 (by decide)) k2 dX7_winner_5 ?_
  refine R_cVv (As := [.ref (eA E 0 0)]) (rest := []) S (c_X1_copyFrom (hB := (by decide)) (hM := (fun r => hG 1 r (by decide))) (hBg := (by decide)) (hMg := (fun r => hG 0 r (by decide))) hf) gX7_winner_X1_copyFrom rfl yk_X1_copyFrom ⟨⟨Nat.le_of_ble_eq_true rfl, Nat.le_of_ble_eq_true rfl⟩, rfl, rfl⟩ hK hP hD hS hX hA ((fun r => hG 1 r (by decide)) 0 (by decide)) (cF_g E (by decide) _ _ 0) rfl rfl hl.1 rfl (Nat.le_of_ble_eq_true rfl) ⟨Nat.zero_le _, Nat.zero_le _⟩ dX7_winner_8 (fun I_1 J_2 H locs hf hP hD hS => ?_)
  refine lv_aload_n S.1 S.2.1 dX7_winner_11 rfl (lv_at hl 0 rfl) ?_
  refine gfX7_4 S iX7 hK hP (h11 0 (by decide)) k1 dX7_winner_12 ?_
  refine lv_ldc (v := 1000000) S.1 S.2.1 S.2.2.2.1 k3 dX7_winner_15 ?_
  refine R_cVi (As := [.int (1000000 : Int32)]) (rest := []) S (c_X1_playOn (hB := (by decide)) (hM := (fun r => hG 1 r (by decide)))  hf) gX7_winner_X1_playOn rfl yk_X1_playOn ⟨⟨Nat.le_of_ble_eq_true rfl, Nat.le_of_ble_eq_true rfl⟩, rfl, rfl⟩ hK hP hD hS hX hA ((fun r => hG 1 r (by decide)) 0 (by decide)) (cF_g E (by decide) _ _ 0) rfl rfl hl.1 rfl (Nat.le_of_ble_eq_true rfl) ⟨Nat.zero_le _, Nat.zero_le _⟩ dX7_winner_17 (fun v_5 I_3 J_4 H locs hf hP hD hS => ?_)
  refine lv_pop S.1 S.2.1 dX7_winner_20 rfl ?_
  refine lv_aload_n S.1 S.2.1 dX7_winner_21 rfl (lv_at hl 0 rfl) ?_
  refine gfX7_4 S iX7 hK hP (h11 0 (by decide)) k1 dX7_winner_22 ?_
  refine R_cVi (As := []) (rest := []) S (c_X1_leader (hB := (by decide)) (hM := (fun r => hG 1 r (by decide)))  hf) gX7_winner_X1_leader rfl yk_X1_leader ⟨⟨Nat.le_of_ble_eq_true rfl, Nat.le_of_ble_eq_true rfl⟩, rfl, rfl⟩ hK hP hD hS hX hA ((fun r => hG 1 r (by decide)) 0 (by decide)) (cF_g E (by decide) _ _ 0) rfl rfl hl.1 rfl (Nat.le_of_ble_eq_true rfl) ⟨Nat.zero_le _, Nat.zero_le _⟩ dX7_winner_25 (fun v_8 I_6 J_7 H locs hf hP hD hS => ?_)
  exact hret hf rfl hP hD hS dX7_winner_28
abbrev rmX7_stepsToEnd : Room := { frames := 6, cells := 0, slots := 0, locals := 148 }
theorem yk_X7_stepsToEnd : yOk yX7_stepsToEnd RX7 0 := by unfold yOk; decide +kernel
def f_X7_stepsToEnd (I : MI) (J : MJ) (Q : Int32 → MI → MJ → Prop) : Prop :=
  f_X1_copyFrom 1 0 I J (fun (I_1 : MI) (J_2 : MJ) => f_X1_playOn 1 (1000000 : Int32) I_1 J_2 (fun (v_5 : Int32) (I_3 : MI) (J_4 : MJ) => Q v_5 I_3 J_4))
set_option maxRecDepth 100000 in
set_option maxHeartbeats 4000000 in
theorem c_X7_stepsToEnd {l : Launch} {E : EV} {ps : List (Nat × Nat)} (h11 : ∀ r, r < 11 → (11, r) ∈ ps) (hG : ∀ k r, k < 11 → r < 16 → (k, r) ∈ ps) (hR : (eT E)[2]? = some (eG E, .object "RhymeRoofs$Game")) {I : MI} {J : MJ} {Q : Int32 → MI → MJ → Prop} (hf : f_X7_stepsToEnd I J Q) : KI l yX7_stepsToEnd wsX7_stepsToEnd rmX7_stepsToEnd E ps [.ref (eA E 11 0)] I J Q := by
  refine K_ofI (cc := cX7_stepsToEnd) (maxL := 1) (ty := .int) (by decide +kernel) rfl (Nat.le_of_ble_eq_true rfl) (fun p e s m args below meth c Qm hret S hK hX => ?_)
  have hA : ∀ q, s.heap.size ≤ q → AA E ps s.heap.size q := fun _ h => Or.inr h
  have k1 := S.2.2.2.2 (.fieldLink RX7 27 "RhymeRoofs" "future" "LRhymeRoofs$Game;") (by decide +kernel)
  have iX7 : ∀ w ∈ wsX70, w ∈ wsX7_stepsToEnd := fun _ h => List.mem_cons_of_mem _ (List.mem_append_left _ (List.mem_append_left _ (List.mem_append_left _ (List.mem_append_right _ h))))
  have k2 := S.2.2.2.2 (.fieldLink RX7 23 "RhymeRoofs" "game" "LRhymeRoofs$Game;") (by decide +kernel)
  have k3 := S.2.2.2.2 (.constant RX7 199 (1000000)) (by decide +kernel)
  intro H locs ls hP hD hS hl
  unfold f_X7_stepsToEnd at hf
  refine lv_aload_n S.1 S.2.1 dX7_stepsToEnd_0 rfl (lv_at hl 0 rfl) ?_
  refine gfX7_4 S iX7 hK hP (h11 0 (by decide)) k1 dX7_stepsToEnd_1 ?_
  refine lv_aload_n S.1 S.2.1 dX7_stepsToEnd_4 rfl (lv_at hl 0 rfl) ?_
  refine gfX7_3 S iX7 hK hP (h11 0 (by decide)) k2 dX7_stepsToEnd_5 ?_
  refine R_cVv (As := [.ref (eA E 0 0)]) (rest := []) S (c_X1_copyFrom (hB := (by decide)) (hM := (fun r => hG 1 r (by decide))) (hBg := (by decide)) (hMg := (fun r => hG 0 r (by decide))) hf) gX7_stepsToEnd_X1_copyFrom rfl yk_X1_copyFrom ⟨⟨Nat.le_of_ble_eq_true rfl, Nat.le_of_ble_eq_true rfl⟩, rfl, rfl⟩ hK hP hD hS hX hA ((fun r => hG 1 r (by decide)) 0 (by decide)) (cF_g E (by decide) _ _ 0) rfl rfl hl.1 rfl (Nat.le_of_ble_eq_true rfl) ⟨Nat.zero_le _, Nat.zero_le _⟩ dX7_stepsToEnd_8 (fun I_1 J_2 H locs hf hP hD hS => ?_)
  refine lv_aload_n S.1 S.2.1 dX7_stepsToEnd_11 rfl (lv_at hl 0 rfl) ?_
  refine gfX7_4 S iX7 hK hP (h11 0 (by decide)) k1 dX7_stepsToEnd_12 ?_
  refine lv_ldc (v := 1000000) S.1 S.2.1 S.2.2.2.1 k3 dX7_stepsToEnd_15 ?_
  refine R_cVi (As := [.int (1000000 : Int32)]) (rest := []) S (c_X1_playOn (hB := (by decide)) (hM := (fun r => hG 1 r (by decide)))  hf) gX7_stepsToEnd_X1_playOn rfl yk_X1_playOn ⟨⟨Nat.le_of_ble_eq_true rfl, Nat.le_of_ble_eq_true rfl⟩, rfl, rfl⟩ hK hP hD hS hX hA ((fun r => hG 1 r (by decide)) 0 (by decide)) (cF_g E (by decide) _ _ 0) rfl rfl hl.1 rfl (Nat.le_of_ble_eq_true rfl) ⟨Nat.zero_le _, Nat.zero_le _⟩ dX7_stepsToEnd_17 (fun v_5 I_3 J_4 H locs hf hP hD hS => ?_)
  exact hret hf rfl hP hD hS dX7_stepsToEnd_20
