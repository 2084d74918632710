abbrev rmX1_wordsOnRows : Room := { frames := 0, cells := 0, slots := 0, locals := 0 }
theorem yk_X1_wordsOnRows : yOk yX1_wordsOnRows RX1 0 := by unfold yOk; decide +kernel
def f_X1_wordsOnRows_B4 (b : Nat) (K30 : Int32 → MI → MJ → Prop) (rec4 : Int32 → Int32 → MI → MJ → Prop) (x1_1 : Int32) (x2_2 : Int32) (I_3 : MI) (J_4 : MJ) : Prop :=
  (((I_3 b 1 3) ≤ x2_2 → K30 x1_1 I_3 J_4) ∧ (¬ (I_3 b 1 3) ≤ x2_2 → (vp_in x2_2 6 ∧ ∀ x1_7 : Int32, x1_7 = (x1_1 + (I_3 b 9 x2_2.toNatClampNeg)) → ∀ x2_8 : Int32, x2_8 = x2_2 + (1 : Int32) → rec4 x1_7 x2_8 I_3 J_4)))
def f_X1_wordsOnRows_L4 (b : Nat) (K30 : Int32 → MI → MJ → Prop) : Nat → Int32 → Int32 → MI → MJ → Prop
  | 0, _, _, _, _ => False
  | n + 1, x1_1, x2_2, I_3, J_4 => f_X1_wordsOnRows_B4 b K30 (f_X1_wordsOnRows_L4 b K30 n) x1_1 x2_2 I_3 J_4
def f_X1_wordsOnRows (b : Nat) (I : MI) (J : MJ) (Q : Int32 → MI → MJ → Prop) : Prop :=
  ∃ n : Nat, f_X1_wordsOnRows_L4 b (fun (x1_9 : Int32) (I_10 : MI) (J_11 : MJ) => Q x1_9 I_10 J_11) n (0 : Int32) (0 : Int32) I J
set_option maxRecDepth 100000 in
set_option maxHeartbeats 4000000 in
theorem c_X1_wordsOnRows {l : Launch} {E : EV} {ps : List (Nat × Nat)} {b : Nat} (hB : b < 11) (hM : ∀ r, r < 16 → (b, r) ∈ ps) {I : MI} {J : MJ} {Q : Int32 → MI → MJ → Prop} (hf : f_X1_wordsOnRows b I J Q) : KI l yX1_wordsOnRows wsX1_wordsOnRows rmX1_wordsOnRows E ps [.ref (eA E b 0)] I J Q := by
  refine K_ofI (cc := cX1_wordsOnRows) (maxL := 3) (ty := .int) (by decide +kernel) rfl (Nat.le_of_ble_eq_true rfl) (fun p e s m args below meth c Qm hret S hK hX => ?_)
  have hA : ∀ q, s.heap.size ≤ q → AA E ps s.heap.size q := fun _ h => Or.inr h
  have k1 := S.2.2.2.2 (.fieldLink RX1 12 "RhymeRoofs$Game" "rules" "LRhymeRoofs$Rules;") (by decide +kernel)
  have iX1 : ∀ w ∈ wsX10, w ∈ wsX1_wordsOnRows := fun _ h => List.mem_cons_of_mem _ (List.mem_append_left _ (List.mem_append_right _ h))
  have k2 := S.2.2.2.2 (.fieldLink RX1 83 "RhymeRoofs$Rules" "rows" "I") (by decide +kernel)
  have iX4 : ∀ w ∈ wsX40, w ∈ wsX1_wordsOnRows := fun _ h => List.mem_cons_of_mem _ (List.mem_append_right _ h)
  have k3 := S.2.2.2.2 (.fieldLink RX1 25 "RhymeRoofs$Game" "wordsOn" "[I") (by decide +kernel)
  intro H locs ls hP hD hS hl
  unfold f_X1_wordsOnRows at hf
  refine lv_iconst (v := 0) S.1 S.2.1 dX1_wordsOnRows_0 rfl ?_
  refine lv_istore_n (lv' := [(1, .int (0 : Int32)), (0, .ref (eA E b 0))]) S.1 S.2.1 dX1_wordsOnRows_1 rfl hl (by decide) rfl (fun ls hl => ?_)
  refine lv_iconst (v := 0) S.1 S.2.1 dX1_wordsOnRows_2 rfl ?_
  refine lv_istore_n (lv' := [(2, .int (0 : Int32)), (1, .int (0 : Int32)), (0, .ref (eA E b 0))]) S.1 S.2.1 dX1_wordsOnRows_3 rfl hl (by decide) rfl (fun ls hl => ?_)
  obtain ⟨n_12, hf⟩ := hf
  have L4 : ∀ (K30 : Int32 → MI → MJ → Prop), (∀ (x1_9 : Int32) (I_10 : MI) (J_11 : MJ), K30 x1_9 I_10 J_11 → Wj p l e (rmX1_wordsOnRows) s m args below meth c Qm E ps 3 I_10 J_11 30 [(1, .int x1_9)] []) → ∀ (n : Nat) (x1_1 : Int32) (x2_2 : Int32) (I_3 : MI) (J_4 : MJ), f_X1_wordsOnRows_L4 b K30 n x1_1 x2_2 I_3 J_4 → Wj p l e (rmX1_wordsOnRows) s m args below meth c Qm E ps 3 I_3 J_4 4 [(0, .ref (eA E b 0)), (1, .int x1_1), (2, .int x2_2)] [] := by
    intro K30 kx30 n
    induction n with
    | zero => intro x1_1 x2_2 I_3 J_4 hf; exact hf.elim
    | succ n ih4 =>
      intro x1_1 x2_2 I_3 J_4 hf
      have hf : f_X1_wordsOnRows_B4 b K30 (f_X1_wordsOnRows_L4 b K30 n) x1_1 x2_2 I_3 J_4 := hf
      intro H locs ls hP hD hS hl
      unfold f_X1_wordsOnRows_B4 at hf
      refine lv_iload_n S.1 S.2.1 dX1_wordsOnRows_4 rfl (lv_at hl 2 rfl) ?_
      refine lv_aload_n S.1 S.2.1 dX1_wordsOnRows_5 rfl (lv_at hl 0 rfl) ?_
      refine gfX1_0 S iX1 hK hP hB (hM 0 (by decide)) k1 dX1_wordsOnRows_6 ?_
      refine gfX4_3 S iX4 hK hP hB (hM 1 (by decide)) k2 dX1_wordsOnRows_9 ?_
      refine lv_icmp_ge (tgt := 30) S.1 S.2.1 dX1_wordsOnRows_12 (by decide) (fun h_5 => ?_) (fun h_5 => ?_)
      · have hf := hf.1 h_5
        exact kx30 _ _ _ hf _ _ _ hP hD hS (lv_sub hl [1] rfl)
      · have hf := hf.2 h_5
        refine lv_iload_n S.1 S.2.1 dX1_wordsOnRows_15 rfl (lv_at hl 1 rfl) ?_
        refine lv_aload_n S.1 S.2.1 dX1_wordsOnRows_16 rfl (lv_at hl 0 rfl) ?_
        refine gfX1_3 S iX1 hK hP hB (hM 0 (by decide)) k3 dX1_wordsOnRows_17 ?_
        refine lv_iload_n S.1 S.2.1 dX1_wordsOnRows_20 rfl (lv_at hl 2 rfl) ?_
        obtain ⟨h_6, hf⟩ := hf
        refine R_iald S.1 S.2.1 hK hP (hM 9 (by decide)) (IAg9 E hB) h_6 dX1_wordsOnRows_21 ?_
        refine lv_iadd S.1 S.2.1 dX1_wordsOnRows_22 ?_
        refine lv_topi (fun x1_7 ex1_7 => ?_)
        have hf := hf x1_7 ex1_7
        refine lv_istore_n (lv' := [(1, .int x1_7), (0, .ref (eA E b 0)), (2, .int x2_2)]) S.1 S.2.1 dX1_wordsOnRows_23 rfl hl (by decide) rfl (fun ls hl => ?_)
        refine nm_o hf (fun x2_8 ex2_8 hf => ?_)
        refine lv_iinc (v := x2_8) (lv' := [(2, .int x2_8), (1, .int x1_7), (0, .ref (eA E b 0))]) S.1 S.2.1 dX1_wordsOnRows_24 hl (k := 2) rfl (by rw [ex2_8]; rfl) (by decide) rfl (fun ls hl => ?_)
        refine lv_goto (tgt := 4) S.1 S.2.1 dX1_wordsOnRows_27 (by decide) ?_
        exact ih4 _ _ _ _ hf _ _ _ hP hD hS (lv_sub hl [2, 1, 0] rfl)
  refine L4 _ (fun x1_9 I_10 J_11 hf H locs ls hP hD hS hl => ?_)  n_12 _ _ _ _ hf _ _ _ hP hD hS (lv_sub hl [2, 1, 0] rfl)
  refine lv_iload_n S.1 S.2.1 dX1_wordsOnRows_30 rfl (lv_at hl 0 rfl) ?_
  exact hret hf rfl hP hD hS dX1_wordsOnRows_31
abbrev rmX1_filledRows : Room := { frames := 1, cells := 0, slots := 0, locals := 21 }
theorem yk_X1_filledRows : yOk yX1_filledRows RX1 0 := by unfold yOk; decide +kernel
def f_X1_filledRows_B4 (b : Nat) (K32 : Int32 → MI → MJ → Prop) (rec4 : Int32 → Int32 → MI → MJ → Prop) (x1_1 : Int32) (x2_2 : Int32) (I_3 : MI) (J_4 : MJ) : Prop :=
  (((I_3 b 1 3) ≤ x2_2 → K32 x1_1 I_3 J_4) ∧ (¬ (I_3 b 1 3) ≤ x2_2 → f_X1_freeTiles b x2_2 I_3 J_4 (fun (v_8 : Int32) (I_6 : MI) (J_7 : MJ) => ((v_8 = (0 : Int32) → ∀ x1_11 : Int32, x1_11 = x1_1 + (1 : Int32) → ∀ x2_12 : Int32, x2_12 = x2_2 + (1 : Int32) → rec4 x1_11 x2_12 I_6 J_7) ∧ (¬ v_8 = (0 : Int32) → ∀ x2_10 : Int32, x2_10 = x2_2 + (1 : Int32) → rec4 x1_1 x2_10 I_6 J_7)))))
def f_X1_filledRows_L4 (b : Nat) (K32 : Int32 → MI → MJ → Prop) : Nat → Int32 → Int32 → MI → MJ → Prop
  | 0, _, _, _, _ => False
  | n + 1, x1_1, x2_2, I_3, J_4 => f_X1_filledRows_B4 b K32 (f_X1_filledRows_L4 b K32 n) x1_1 x2_2 I_3 J_4
def f_X1_filledRows (b : Nat) (I : MI) (J : MJ) (Q : Int32 → MI → MJ → Prop) : Prop :=
  ∃ n : Nat, f_X1_filledRows_L4 b (fun (x1_13 : Int32) (I_14 : MI) (J_15 : MJ) => Q x1_13 I_14 J_15) n (0 : Int32) (0 : Int32) I J
set_option maxRecDepth 100000 in
set_option maxHeartbeats 4000000 in
theorem c_X1_filledRows {l : Launch} {E : EV} {ps : List (Nat × Nat)} {b : Nat} (hB : b < 11) (hM : ∀ r, r < 16 → (b, r) ∈ ps) {I : MI} {J : MJ} {Q : Int32 → MI → MJ → Prop} (hf : f_X1_filledRows b I J Q) : KI l yX1_filledRows wsX1_filledRows rmX1_filledRows E ps [.ref (eA E b 0)] I J Q := by
  refine K_ofI (cc := cX1_filledRows) (maxL := 3) (ty := .int) (by decide +kernel) rfl (Nat.le_of_ble_eq_true rfl) (fun p e s m args below meth c Qm hret S hK hX => ?_)
  have hA : ∀ q, s.heap.size ≤ q → AA E ps s.heap.size q := fun _ h => Or.inr h
  have k1 := S.2.2.2.2 (.fieldLink RX1 12 "RhymeRoofs$Game" "rules" "LRhymeRoofs$Rules;") (by decide +kernel)
  have iX1 : ∀ w ∈ wsX10, w ∈ wsX1_filledRows := fun _ h => List.mem_cons_of_mem _ (List.mem_append_left _ (List.mem_append_right _ h))
  have k2 := S.2.2.2.2 (.fieldLink RX1 83 "RhymeRoofs$Rules" "rows" "I") (by decide +kernel)
  have iX4 : ∀ w ∈ wsX40, w ∈ wsX1_filledRows := fun _ h => List.mem_cons_of_mem _ (List.mem_append_right _ h)
  intro H locs ls hP hD hS hl
  unfold f_X1_filledRows at hf
  refine lv_iconst (v := 0) S.1 S.2.1 dX1_filledRows_0 rfl ?_
  refine lv_istore_n (lv' := [(1, .int (0 : Int32)), (0, .ref (eA E b 0))]) S.1 S.2.1 dX1_filledRows_1 rfl hl (by decide) rfl (fun ls hl => ?_)
  refine lv_iconst (v := 0) S.1 S.2.1 dX1_filledRows_2 rfl ?_
  refine lv_istore_n (lv' := [(2, .int (0 : Int32)), (1, .int (0 : Int32)), (0, .ref (eA E b 0))]) S.1 S.2.1 dX1_filledRows_3 rfl hl (by decide) rfl (fun ls hl => ?_)
  obtain ⟨n_16, hf⟩ := hf
  have L4 : ∀ (K32 : Int32 → MI → MJ → Prop), (∀ (x1_13 : Int32) (I_14 : MI) (J_15 : MJ), K32 x1_13 I_14 J_15 → Wj p l e (rmX1_filledRows) s m args below meth c Qm E ps 3 I_14 J_15 32 [(1, .int x1_13)] []) → ∀ (n : Nat) (x1_1 : Int32) (x2_2 : Int32) (I_3 : MI) (J_4 : MJ), f_X1_filledRows_L4 b K32 n x1_1 x2_2 I_3 J_4 → Wj p l e (rmX1_filledRows) s m args below meth c Qm E ps 3 I_3 J_4 4 [(0, .ref (eA E b 0)), (1, .int x1_1), (2, .int x2_2)] [] := by
    intro K32 kx32 n
    induction n with
    | zero => intro x1_1 x2_2 I_3 J_4 hf; exact hf.elim
    | succ n ih4 =>
      intro x1_1 x2_2 I_3 J_4 hf
      have hf : f_X1_filledRows_B4 b K32 (f_X1_filledRows_L4 b K32 n) x1_1 x2_2 I_3 J_4 := hf
      intro H locs ls hP hD hS hl
      unfold f_X1_filledRows_B4 at hf
      refine lv_iload_n S.1 S.2.1 dX1_filledRows_4 rfl (lv_at hl 2 rfl) ?_
      refine lv_aload_n S.1 S.2.1 dX1_filledRows_5 rfl (lv_at hl 0 rfl) ?_
      refine gfX1_0 S iX1 hK hP hB (hM 0 (by decide)) k1 dX1_filledRows_6 ?_
      refine gfX4_3 S iX4 hK hP hB (hM 1 (by decide)) k2 dX1_filledRows_9 ?_
      refine lv_icmp_ge (tgt := 32) S.1 S.2.1 dX1_filledRows_12 (by decide) (fun h_5 => ?_) (fun h_5 => ?_)
      · have hf := hf.1 h_5
        exact kx32 _ _ _ hf _ _ _ hP hD hS (lv_sub hl [1] rfl)
      · have hf := hf.2 h_5
        refine lv_aload_n S.1 S.2.1 dX1_filledRows_15 rfl (lv_at hl 0 rfl) ?_
        refine lv_iload_n S.1 S.2.1 dX1_filledRows_16 rfl (lv_at hl 2 rfl) ?_
        refine R_cVi (As := [.int x2_2]) (rest := []) S (c_X1_freeTiles (hB := hB) (hM := hM)  hf) gX1_filledRows_X1_freeTiles rfl yk_X1_freeTiles ⟨⟨Nat.le_of_ble_eq_true rfl, Nat.le_of_ble_eq_true rfl⟩, rfl, rfl⟩ hK hP hD hS hX hA (hM 0 (by decide)) (cF_g E hB _ _ 0) rfl rfl hl.1 rfl (Nat.le_of_ble_eq_true rfl) ⟨Nat.zero_le _, Nat.zero_le _⟩ dX1_filledRows_17 (fun v_8 I_6 J_7 H locs hf hP hD hS => ?_)
        refine lv_if_ne (tgt := 26) S.1 S.2.1 dX1_filledRows_20 (by decide) (fun h_9 => ?_) (fun h_9 => ?_)
        · have hf := hf.2 h_9
          refine nm_o hf (fun x2_10 ex2_10 hf => ?_)
          refine lv_iinc (v := x2_10) (lv' := [(2, .int x2_10), (0, .ref (eA E b 0)), (1, .int x1_1)]) S.1 S.2.1 dX1_filledRows_26 hl (k := 2) rfl (by rw [ex2_10]; rfl) (by decide) rfl (fun ls hl => ?_)
          refine lv_goto (tgt := 4) S.1 S.2.1 dX1_filledRows_29 (by decide) ?_
          exact ih4 _ _ _ _ hf _ _ _ hP hD hS (lv_sub hl [1, 2, 0] rfl)
        · have hf := hf.1 h_9
          refine nm_o hf (fun x1_11 ex1_11 hf => ?_)
          refine lv_iinc (v := x1_11) (lv' := [(1, .int x1_11), (0, .ref (eA E b 0)), (2, .int x2_2)]) S.1 S.2.1 dX1_filledRows_23 hl (k := 1) rfl (by rw [ex1_11]; rfl) (by decide) rfl (fun ls hl => ?_)
          refine nm_o hf (fun x2_12 ex2_12 hf => ?_)
          refine lv_iinc (v := x2_12) (lv' := [(2, .int x2_12), (1, .int x1_11), (0, .ref (eA E b 0))]) S.1 S.2.1 dX1_filledRows_26 hl (k := 2) rfl (by rw [ex2_12]; rfl) (by decide) rfl (fun ls hl => ?_)
          refine lv_goto (tgt := 4) S.1 S.2.1 dX1_filledRows_29 (by decide) ?_
          exact ih4 _ _ _ _ hf _ _ _ hP hD hS (lv_sub hl [2, 1, 0] rfl)
  refine L4 _ (fun x1_13 I_14 J_15 hf H locs ls hP hD hS hl => ?_)  n_16 _ _ _ _ hf _ _ _ hP hD hS (lv_sub hl [2, 1, 0] rfl)
  refine lv_iload_n S.1 S.2.1 dX1_filledRows_32 rfl (lv_at hl 0 rfl) ?_
  exact hret hf rfl hP hD hS dX1_filledRows_33
abbrev rmX1_lettersOfHand : Room := { frames := 1, cells := 0, slots := 0, locals := 24 }
theorem yk_X1_lettersOfHand : yOk yX1_lettersOfHand RX1 1 := by unfold yOk; decide +kernel
def f_X1_lettersOfHand_B4 (b : Nat) (x1_1 : Int32) (K32 : Int32 → MI → MJ → Prop) (rec4 : Int32 → Int32 → MI → MJ → Prop) (x2_2 : Int32) (x3_3 : Int32) (I_4 : MI) (J_5 : MJ) : Prop :=
  (vp_in x1_1 4 ∧ (((I_4 b 13 x1_1.toNatClampNeg) ≤ x3_3 → K32 x2_2 I_4 J_5) ∧ (¬ (I_4 b 13 x1_1.toNatClampNeg) ≤ x3_3 → f_X1_wordOf b x1_1 x3_3 I_4 J_5 (fun (v_10 : Int64) (I_8 : MI) (J_9 : MJ) => f_X6_length v_10 I_8 J_9 (fun (v_13 : Int32) (I_11 : MI) (J_12 : MJ) => ∀ x2_14 : Int32, x2_14 = (x2_2 + v_13) → ∀ x3_15 : Int32, x3_15 = x3_3 + (1 : Int32) → rec4 x2_14 x3_15 I_11 J_12)))))
def f_X1_lettersOfHand_L4 (b : Nat) (x1_1 : Int32) (K32 : Int32 → MI → MJ → Prop) : Nat → Int32 → Int32 → MI → MJ → Prop
  | 0, _, _, _, _ => False
  | n + 1, x2_2, x3_3, I_4, J_5 => f_X1_lettersOfHand_B4 b x1_1 K32 (f_X1_lettersOfHand_L4 b x1_1 K32 n) x2_2 x3_3 I_4 J_5
def f_X1_lettersOfHand (b : Nat) (x1 : Int32) (I : MI) (J : MJ) (Q : Int32 → MI → MJ → Prop) : Prop :=
  ∃ n : Nat, f_X1_lettersOfHand_L4 b x1 (fun (x2_16 : Int32) (I_17 : MI) (J_18 : MJ) => Q x2_16 I_17 J_18) n (0 : Int32) (0 : Int32) I J
set_option maxRecDepth 100000 in
set_option maxHeartbeats 4000000 in
theorem c_X1_lettersOfHand {l : Launch} {E : EV} {ps : List (Nat × Nat)} {b : Nat} (hB : b < 11) (hM : ∀ r, r < 16 → (b, r) ∈ ps) {x1 : Int32} {I : MI} {J : MJ} {Q : Int32 → MI → MJ → Prop} (hf : f_X1_lettersOfHand b x1 I J Q) : KI l yX1_lettersOfHand wsX1_lettersOfHand rmX1_lettersOfHand E ps [.ref (eA E b 0), .int x1] I J Q := by
  refine K_ofI (cc := cX1_lettersOfHand) (maxL := 4) (ty := .int) (by decide +kernel) rfl (Nat.le_of_ble_eq_true rfl) (fun p e s m args below meth c Qm hret S hK hX => ?_)
  have hA : ∀ q, s.heap.size ≤ q → AA E ps s.heap.size q := fun _ h => Or.inr h
  have k1 := S.2.2.2.2 (.fieldLink RX1 38 "RhymeRoofs$Game" "handSize" "[I") (by decide +kernel)
  have iX1 : ∀ w ∈ wsX10, w ∈ wsX1_lettersOfHand := fun _ h => List.mem_cons_of_mem _ (List.mem_append_right _ h)
  intro H locs ls hP hD hS hl
  unfold f_X1_lettersOfHand at hf
  refine lv_iconst (v := 0) S.1 S.2.1 dX1_lettersOfHand_0 rfl ?_
  refine lv_istore_n (lv' := [(2, .int (0 : Int32)), (0, .ref (eA E b 0)), (1, .int x1)]) S.1 S.2.1 dX1_lettersOfHand_1 rfl hl (by decide) rfl (fun ls hl => ?_)
  refine lv_iconst (v := 0) S.1 S.2.1 dX1_lettersOfHand_2 rfl ?_
  refine lv_istore_n (lv' := [(3, .int (0 : Int32)), (2, .int (0 : Int32)), (0, .ref (eA E b 0)), (1, .int x1)]) S.1 S.2.1 dX1_lettersOfHand_3 rfl hl (by decide) rfl (fun ls hl => ?_)
  obtain ⟨n_19, hf⟩ := hf
  have L4 : ∀ (x1_1 : Int32), ∀ (K32 : Int32 → MI → MJ → Prop), (∀ (x2_16 : Int32) (I_17 : MI) (J_18 : MJ), K32 x2_16 I_17 J_18 → Wj p l e (rmX1_lettersOfHand) s m args below meth c Qm E ps 4 I_17 J_18 32 [(2, .int x2_16)] []) → ∀ (n : Nat) (x2_2 : Int32) (x3_3 : Int32) (I_4 : MI) (J_5 : MJ), f_X1_lettersOfHand_L4 b x1_1 K32 n x2_2 x3_3 I_4 J_5 → Wj p l e (rmX1_lettersOfHand) s m args below meth c Qm E ps 4 I_4 J_5 4 [(0, .ref (eA E b 0)), (1, .int x1_1), (2, .int x2_2), (3, .int x3_3)] [] := by
    intro x1_1 K32 kx32 n
    induction n with
    | zero => intro x2_2 x3_3 I_4 J_5 hf; exact hf.elim
    | succ n ih4 =>
      intro x2_2 x3_3 I_4 J_5 hf
      have hf : f_X1_lettersOfHand_B4 b x1_1 K32 (f_X1_lettersOfHand_L4 b x1_1 K32 n) x2_2 x3_3 I_4 J_5 := hf
      intro H locs ls hP hD hS hl
      unfold f_X1_lettersOfHand_B4 at hf
      refine lv_iload_n S.1 S.2.1 dX1_lettersOfHand_4 rfl (lv_at hl 3 rfl) ?_
      refine lv_aload_n S.1 S.2.1 dX1_lettersOfHand_5 rfl (lv_at hl 0 rfl) ?_
      refine gfX1_7 S iX1 hK hP hB (hM 0 (by decide)) k1 dX1_lettersOfHand_6 ?_
      refine lv_iload_n S.1 S.2.1 dX1_lettersOfHand_9 rfl (lv_at hl 1 rfl) ?_
      obtain ⟨h_6, hf⟩ := hf
      refine R_iald S.1 S.2.1 hK hP (hM 13 (by decide)) (IAg13 E hB) h_6 dX1_lettersOfHand_10 ?_
      refine lv_icmp_ge (tgt := 32) S.1 S.2.1 dX1_lettersOfHand_11 (by decide) (fun h_7 => ?_) (fun h_7 => ?_)
      · have hf := hf.1 h_7
        exact kx32 _ _ _ hf _ _ _ hP hD hS (lv_sub hl [2] rfl)
      · have hf := hf.2 h_7
        refine lv_iload_n S.1 S.2.1 dX1_lettersOfHand_14 rfl (lv_at hl 2 rfl) ?_
        refine lv_aload_n S.1 S.2.1 dX1_lettersOfHand_15 rfl (lv_at hl 0 rfl) ?_
        refine lv_iload_n S.1 S.2.1 dX1_lettersOfHand_16 rfl (lv_at hl 1 rfl) ?_
        refine lv_iload_n S.1 S.2.1 dX1_lettersOfHand_17 rfl (lv_at hl 3 rfl) ?_
        refine R_cVl (As := [.int x1_1, .int x3_3]) (rest := [.int x2_2]) S (c_X1_wordOf (hB := hB) (hM := hM)  hf) gX1_lettersOfHand_X1_wordOf rfl yk_X1_wordOf ⟨⟨Nat.le_of_ble_eq_true rfl, Nat.le_of_ble_eq_true rfl⟩, rfl, rfl⟩ hK hP hD hS hX hA (hM 0 (by decide)) (cF_g E hB _ _ 0) rfl rfl hl.1 rfl (Nat.le_of_ble_eq_true rfl) ⟨Nat.zero_le _, Nat.zero_le _⟩ dX1_lettersOfHand_18 (fun v_10 I_8 J_9 H locs hf hP hD hS => ?_)
        refine R_cSi (As := [.long v_10]) (rest := [.int x2_2]) S (c_X6_length   hf) gX1_lettersOfHand_X6_length rfl yk_X6_length ⟨⟨Nat.le_of_ble_eq_true rfl, Nat.le_of_ble_eq_true rfl⟩, rfl, rfl⟩ hK hP hD hS hX hA rfl hl.1 rfl (Nat.le_of_ble_eq_true rfl) ⟨Nat.zero_le _, Nat.zero_le _⟩ dX1_lettersOfHand_21 (fun v_13 I_11 J_12 H locs hf hP hD hS => ?_)
        refine lv_iadd S.1 S.2.1 dX1_lettersOfHand_24 ?_
        refine lv_topi (fun x2_14 ex2_14 => ?_)
        have hf := hf x2_14 ex2_14
        refine lv_istore_n (lv' := [(2, .int x2_14), (0, .ref (eA E b 0)), (1, .int x1_1), (3, .int x3_3)]) S.1 S.2.1 dX1_lettersOfHand_25 rfl hl (by decide) rfl (fun ls hl => ?_)
        refine nm_o hf (fun x3_15 ex3_15 hf => ?_)
        refine lv_iinc (v := x3_15) (lv' := [(3, .int x3_15), (2, .int x2_14), (0, .ref (eA E b 0)), (1, .int x1_1)]) S.1 S.2.1 dX1_lettersOfHand_26 hl (k := 3) rfl (by rw [ex3_15]; rfl) (by decide) rfl (fun ls hl => ?_)
        refine lv_goto (tgt := 4) S.1 S.2.1 dX1_lettersOfHand_29 (by decide) ?_
        exact ih4 _ _ _ _ hf _ _ _ hP hD hS (lv_sub hl [2, 3, 1, 0] rfl)
  refine L4 _ _ (fun x2_16 I_17 J_18 hf H locs ls hP hD hS hl => ?_)  n_19 _ _ _ _ hf _ _ _ hP hD hS (lv_sub hl [2, 3, 1, 0] rfl)
  refine lv_iload_n S.1 S.2.1 dX1_lettersOfHand_32 rfl (lv_at hl 0 rfl) ?_
  exact hret hf rfl hP hD hS dX1_lettersOfHand_33
abbrev rmX1_rowsOwnedBy : Room := { frames := 0, cells := 0, slots := 0, locals := 0 }
theorem yk_X1_rowsOwnedBy : yOk yX1_rowsOwnedBy RX1 1 := by unfold yOk; decide +kernel
def f_X1_rowsOwnedBy_B4 (b : Nat) (x1_1 : Int32) (K34 : Int32 → MI → MJ → Prop) (rec4 : Int32 → Int32 → MI → MJ → Prop) (x2_2 : Int32) (x3_3 : Int32) (I_4 : MI) (J_5 : MJ) : Prop :=
  (((I_4 b 1 3) ≤ x3_3 → K34 x2_2 I_4 J_5) ∧ (¬ (I_4 b 1 3) ≤ x3_3 → (vp_in x3_3 6 ∧ (((I_4 b 11 x3_3.toNatClampNeg) = x1_1 → ∀ x2_10 : Int32, x2_10 = x2_2 + (1 : Int32) → ∀ x3_11 : Int32, x3_11 = x3_3 + (1 : Int32) → rec4 x2_10 x3_11 I_4 J_5) ∧ (¬ (I_4 b 11 x3_3.toNatClampNeg) = x1_1 → ∀ x3_9 : Int32, x3_9 = x3_3 + (1 : Int32) → rec4 x2_2 x3_9 I_4 J_5)))))
def f_X1_rowsOwnedBy_L4 (b : Nat) (x1_1 : Int32) (K34 : Int32 → MI → MJ → Prop) : Nat → Int32 → Int32 → MI → MJ → Prop
  | 0, _, _, _, _ => False
  | n + 1, x2_2, x3_3, I_4, J_5 => f_X1_rowsOwnedBy_B4 b x1_1 K34 (f_X1_rowsOwnedBy_L4 b x1_1 K34 n) x2_2 x3_3 I_4 J_5
def f_X1_rowsOwnedBy (b : Nat) (x1 : Int32) (I : MI) (J : MJ) (Q : Int32 → MI → MJ → Prop) : Prop :=
  ∃ n : Nat, f_X1_rowsOwnedBy_L4 b x1 (fun (x2_12 : Int32) (I_13 : MI) (J_14 : MJ) => Q x2_12 I_13 J_14) n (0 : Int32) (0 : Int32) I J
set_option maxRecDepth 100000 in
set_option maxHeartbeats 4000000 in
theorem c_X1_rowsOwnedBy {l : Launch} {E : EV} {ps : List (Nat × Nat)} {b : Nat} (hB : b < 11) (hM : ∀ r, r < 16 → (b, r) ∈ ps) {x1 : Int32} {I : MI} {J : MJ} {Q : Int32 → MI → MJ → Prop} (hf : f_X1_rowsOwnedBy b x1 I J Q) : KI l yX1_rowsOwnedBy wsX1_rowsOwnedBy rmX1_rowsOwnedBy E ps [.ref (eA E b 0), .int x1] I J Q := by
  refine K_ofI (cc := cX1_rowsOwnedBy) (maxL := 4) (ty := .int) (by decide +kernel) rfl (Nat.le_of_ble_eq_true rfl) (fun p e s m args below meth c Qm hret S hK hX => ?_)
  have hA : ∀ q, s.heap.size ≤ q → AA E ps s.heap.size q := fun _ h => Or.inr h
  have k1 := S.2.2.2.2 (.fieldLink RX1 12 "RhymeRoofs$Game" "rules" "LRhymeRoofs$Rules;") (by decide +kernel)
  have iX1 : ∀ w ∈ wsX10, w ∈ wsX1_rowsOwnedBy := fun _ h => List.mem_cons_of_mem _ (List.mem_append_left _ (List.mem_append_right _ h))
  have k2 := S.2.2.2.2 (.fieldLink RX1 83 "RhymeRoofs$Rules" "rows" "I") (by decide +kernel)
  have iX4 : ∀ w ∈ wsX40, w ∈ wsX1_rowsOwnedBy := fun _ h => List.mem_cons_of_mem _ (List.mem_append_right _ h)
  have k3 := S.2.2.2.2 (.fieldLink RX1 32 "RhymeRoofs$Game" "ownerOf" "[I") (by decide +kernel)
  intro H locs ls hP hD hS hl
  unfold f_X1_rowsOwnedBy at hf
  refine lv_iconst (v := 0) S.1 S.2.1 dX1_rowsOwnedBy_0 rfl ?_
  refine lv_istore_n (lv' := [(2, .int (0 : Int32)), (0, .ref (eA E b 0)), (1, .int x1)]) S.1 S.2.1 dX1_rowsOwnedBy_1 rfl hl (by decide) rfl (fun ls hl => ?_)
  refine lv_iconst (v := 0) S.1 S.2.1 dX1_rowsOwnedBy_2 rfl ?_
  refine lv_istore_n (lv' := [(3, .int (0 : Int32)), (2, .int (0 : Int32)), (0, .ref (eA E b 0)), (1, .int x1)]) S.1 S.2.1 dX1_rowsOwnedBy_3 rfl hl (by decide) rfl (fun ls hl => ?_)
  obtain ⟨n_15, hf⟩ := hf
  have L4 : ∀ (x1_1 : Int32), ∀ (K34 : Int32 → MI → MJ → Prop), (∀ (x2_12 : Int32) (I_13 : MI) (J_14 : MJ), K34 x2_12 I_13 J_14 → Wj p l e (rmX1_rowsOwnedBy) s m args below meth c Qm E ps 4 I_13 J_14 34 [(2, .int x2_12)] []) → ∀ (n : Nat) (x2_2 : Int32) (x3_3 : Int32) (I_4 : MI) (J_5 : MJ), f_X1_rowsOwnedBy_L4 b x1_1 K34 n x2_2 x3_3 I_4 J_5 → Wj p l e (rmX1_rowsOwnedBy) s m args below meth c Qm E ps 4 I_4 J_5 4 [(0, .ref (eA E b 0)), (1, .int x1_1), (2, .int x2_2), (3, .int x3_3)] [] := by
    intro x1_1 K34 kx34 n
    induction n with
    | zero => intro x2_2 x3_3 I_4 J_5 hf; exact hf.elim
    | succ n ih4 =>
      intro x2_2 x3_3 I_4 J_5 hf
      have hf : f_X1_rowsOwnedBy_B4 b x1_1 K34 (f_X1_rowsOwnedBy_L4 b x1_1 K34 n) x2_2 x3_3 I_4 J_5 := hf
      intro H locs ls hP hD hS hl
      unfold f_X1_rowsOwnedBy_B4 at hf
      refine lv_iload_n S.1 S.2.1 dX1_rowsOwnedBy_4 rfl (lv_at hl 3 rfl) ?_
      refine lv_aload_n S.1 S.2.1 dX1_rowsOwnedBy_5 rfl (lv_at hl 0 rfl) ?_
      refine gfX1_0 S iX1 hK hP hB (hM 0 (by decide)) k1 dX1_rowsOwnedBy_6 ?_
      refine gfX4_3 S iX4 hK hP hB (hM 1 (by decide)) k2 dX1_rowsOwnedBy_9 ?_
      refine lv_icmp_ge (tgt := 34) S.1 S.2.1 dX1_rowsOwnedBy_12 (by decide) (fun h_6 => ?_) (fun h_6 => ?_)
      · have hf := hf.1 h_6
        exact kx34 _ _ _ hf _ _ _ hP hD hS (lv_sub hl [2] rfl)
      · have hf := hf.2 h_6
        refine lv_aload_n S.1 S.2.1 dX1_rowsOwnedBy_15 rfl (lv_at hl 0 rfl) ?_
        refine gfX1_5 S iX1 hK hP hB (hM 0 (by decide)) k3 dX1_rowsOwnedBy_16 ?_
        refine lv_iload_n S.1 S.2.1 dX1_rowsOwnedBy_19 rfl (lv_at hl 3 rfl) ?_
        obtain ⟨h_7, hf⟩ := hf
        refine R_iald S.1 S.2.1 hK hP (hM 11 (by decide)) (IAg11 E hB) h_7 dX1_rowsOwnedBy_20 ?_
        refine lv_iload_n S.1 S.2.1 dX1_rowsOwnedBy_21 rfl (lv_at hl 1 rfl) ?_
        refine lv_icmp_ne (tgt := 28) S.1 S.2.1 dX1_rowsOwnedBy_22 (by decide) (fun h_8 => ?_) (fun h_8 => ?_)
        · have hf := hf.2 h_8
          refine nm_o hf (fun x3_9 ex3_9 hf => ?_)
          refine lv_iinc (v := x3_9) (lv' := [(3, .int x3_9), (0, .ref (eA E b 0)), (1, .int x1_1), (2, .int x2_2)]) S.1 S.2.1 dX1_rowsOwnedBy_28 hl (k := 3) rfl (by rw [ex3_9]; rfl) (by decide) rfl (fun ls hl => ?_)
          refine lv_goto (tgt := 4) S.1 S.2.1 dX1_rowsOwnedBy_31 (by decide) ?_
          exact ih4 _ _ _ _ hf _ _ _ hP hD hS (lv_sub hl [1, 2, 3, 0] rfl)
        · have hf := hf.1 h_8
          refine nm_o hf (fun x2_10 ex2_10 hf => ?_)
          refine lv_iinc (v := x2_10) (lv' := [(2, .int x2_10), (0, .ref (eA E b 0)), (1, .int x1_1), (3, .int x3_3)]) S.1 S.2.1 dX1_rowsOwnedBy_25 hl (k := 2) rfl (by rw [ex2_10]; rfl) (by decide) rfl (fun ls hl => ?_)
          refine nm_o hf (fun x3_11 ex3_11 hf => ?_)
          refine lv_iinc (v := x3_11) (lv' := [(3, .int x3_11), (2, .int x2_10), (0, .ref (eA E b 0)), (1, .int x1_1)]) S.1 S.2.1 dX1_rowsOwnedBy_28 hl (k := 3) rfl (by rw [ex3_11]; rfl) (by decide) rfl (fun ls hl => ?_)
          refine lv_goto (tgt := 4) S.1 S.2.1 dX1_rowsOwnedBy_31 (by decide) ?_
          exact ih4 _ _ _ _ hf _ _ _ hP hD hS (lv_sub hl [2, 3, 1, 0] rfl)
  refine L4 _ _ (fun x2_12 I_13 J_14 hf H locs ls hP hD hS hl => ?_)  n_15 _ _ _ _ hf _ _ _ hP hD hS (lv_sub hl [2, 3, 1, 0] rfl)
  refine lv_iload_n S.1 S.2.1 dX1_rowsOwnedBy_34 rfl (lv_at hl 0 rfl) ?_
  exact hret hf rfl hP hD hS dX1_rowsOwnedBy_35
