abbrev rmX7_covered : Room := { frames := 0, cells := 0, slots := 0, locals := 0 }
theorem yk_X7_covered : yOk yX7_covered RX7 0 := by unfold yOk; decide +kernel
def f_X7_covered_B6 (K53 : Int32 → Int32 → MI → MJ → Prop) (rec6 : Int32 → Int32 → Int32 → MI → MJ → Prop) (x1_1 : Int32) (x2_2 : Int32) (x3_3 : Int32) (I_4 : MI) (J_5 : MJ) : Prop :=
  (((I_4 0 1 3) ≤ x3_3 → K53 x1_1 x2_2 I_4 J_5) ∧ (¬ (I_4 0 1 3) ≤ x3_3 → (vp_in x3_3 6 ∧ ∀ x1_8 : Int32, x1_8 = (x1_1 + (I_4 0 8 x3_3.toNatClampNeg)) → (vp_in x3_3 6 ∧ ∀ x2_10 : Int32, x2_10 = (x2_2 + (I_4 0 3 x3_3.toNatClampNeg)) → ∀ x3_11 : Int32, x3_11 = x3_3 + (1 : Int32) → rec6 x1_8 x2_10 x3_11 I_4 J_5))))
def f_X7_covered_L6 (K53 : Int32 → Int32 → MI → MJ → Prop) : Nat → Int32 → Int32 → Int32 → MI → MJ → Prop
  | 0, _, _, _, _, _ => False
  | n + 1, x1_1, x2_2, x3_3, I_4, J_5 => f_X7_covered_B6 K53 (f_X7_covered_L6 K53 n) x1_1 x2_2 x3_3 I_4 J_5
def f_X7_covered (I : MI) (J : MJ) (Q : UInt32 → MI → MJ → Prop) : Prop :=
  ∃ n : Nat, f_X7_covered_L6 (fun (x1_12 : Int32) (x2_13 : Int32) (I_14 : MI) (J_15 : MJ) => ((x2_13 = (0 : Int32) → Q (FP.fconst0) I_14 J_15) ∧ (¬ x2_13 = (0 : Int32) → (vf_n32 (FP.fdiv (FP.i2f x1_12) (FP.i2f x2_13)) ∧ Q (FP.fdiv (FP.i2f x1_12) (FP.i2f x2_13)) I_14 J_15)))) n (0 : Int32) (0 : Int32) (0 : Int32) I J
set_option maxRecDepth 100000 in
set_option maxHeartbeats 4000000 in
theorem c_X7_covered {l : Launch} {E : EV} {ps : List (Nat × Nat)} (h11 : ∀ r, r < 11 → (11, r) ∈ ps) (hG : ∀ k r, k < 11 → r < 16 → (k, r) ∈ ps) (hR : (eT E)[2]? = some (eG E, .object "RhymeRoofs$Game")) {I : MI} {J : MJ} {Q : UInt32 → MI → MJ → Prop} (hf : f_X7_covered I J Q) : KF l yX7_covered wsX7_covered rmX7_covered E ps [.ref (eA E 11 0)] I J Q := by
  refine K_ofF (cc := cX7_covered) (maxL := 4) (by decide +kernel) rfl (Nat.le_of_ble_eq_true rfl) (fun p e s m args below meth c Qm hret S hK hX => ?_)
  have hA : ∀ q, s.heap.size ≤ q → AA E ps s.heap.size q := fun _ h => Or.inr h
  have k1 := S.2.2.2.2 (.fieldLink RX7 23 "RhymeRoofs" "game" "LRhymeRoofs$Game;") (by decide +kernel)
  have iX7 : ∀ w ∈ wsX70, w ∈ wsX7_covered := fun _ h => List.mem_cons_of_mem _ (List.mem_append_left _ (List.mem_append_left _ (List.mem_append_right _ h)))
  have k2 := S.2.2.2.2 (.fieldLink RX7 96 "RhymeRoofs$Game" "rules" "LRhymeRoofs$Rules;") (by decide +kernel)
  have iX1 : ∀ w ∈ wsX10, w ∈ wsX7_covered := fun _ h => List.mem_cons_of_mem _ (List.mem_append_left _ (List.mem_append_right _ h))
  have k3 := S.2.2.2.2 (.fieldLink RX7 206 "RhymeRoofs$Rules" "rows" "I") (by decide +kernel)
  have iX4 : ∀ w ∈ wsX40, w ∈ wsX7_covered := fun _ h => List.mem_cons_of_mem _ (List.mem_append_right _ h)
  have k4 := S.2.2.2.2 (.fieldLink RX7 209 "RhymeRoofs$Game" "lettersOn" "[I") (by decide +kernel)
  have k5 := S.2.2.2.2 (.fieldLink RX7 100 "RhymeRoofs$Rules" "tiles" "[I") (by decide +kernel)
  intro H locs ls hP hD hS hl
  unfold f_X7_covered at hf
  refine lv_iconst (v := 0) S.1 S.2.1 dX7_covered_0 rfl ?_
  refine lv_istore_n (lv' := [(1, .int (0 : Int32)), (0, .ref (eA E 11 0))]) S.1 S.2.1 dX7_covered_1 rfl hl (by decide) rfl (fun ls hl => ?_)
  refine lv_iconst (v := 0) S.1 S.2.1 dX7_covered_2 rfl ?_
  refine lv_istore_n (lv' := [(2, .int (0 : Int32)), (1, .int (0 : Int32)), (0, .ref (eA E 11 0))]) S.1 S.2.1 dX7_covered_3 rfl hl (by decide) rfl (fun ls hl => ?_)
  refine lv_iconst (v := 0) S.1 S.2.1 dX7_covered_4 rfl ?_
  refine lv_istore_n (lv' := [(3, .int (0 : Int32)), (2, .int (0 : Int32)), (1, .int (0 : Int32)), (0, .ref (eA E 11 0))]) S.1 S.2.1 dX7_covered_5 rfl hl (by decide) rfl (fun ls hl => ?_)
  obtain ⟨n_18, hf⟩ := hf
  have L6 : ∀ (K53 : Int32 → Int32 → MI → MJ → Prop), (∀ (x1_12 : Int32) (x2_13 : Int32) (I_14 : MI) (J_15 : MJ), K53 x1_12 x2_13 I_14 J_15 → Wj p l e (rmX7_covered) s m args below meth c Qm E ps 4 I_14 J_15 53 [(1, .int x1_12), (2, .int x2_13)] []) → ∀ (n : Nat) (x1_1 : Int32) (x2_2 : Int32) (x3_3 : Int32) (I_4 : MI) (J_5 : MJ), f_X7_covered_L6 K53 n x1_1 x2_2 x3_3 I_4 J_5 → Wj p l e (rmX7_covered) s m args below meth c Qm E ps 4 I_4 J_5 6 [(0, .ref (eA E 11 0)), (1, .int x1_1), (2, .int x2_2), (3, .int x3_3)] [] := by
    intro K53 kx53 n
    induction n with
    | zero => intro x1_1 x2_2 x3_3 I_4 J_5 hf; exact hf.elim
    | succ n ih6 =>
      intro x1_1 x2_2 x3_3 I_4 J_5 hf
      have hf : f_X7_covered_B6 K53 (f_X7_covered_L6 K53 n) x1_1 x2_2 x3_3 I_4 J_5 := hf
      intro H locs ls hP hD hS hl
      unfold f_X7_covered_B6 at hf
      refine lv_iload_n S.1 S.2.1 dX7_covered_6 rfl (lv_at hl 3 rfl) ?_
      refine lv_aload_n S.1 S.2.1 dX7_covered_7 rfl (lv_at hl 0 rfl) ?_
      refine gfX7_3 S iX7 hK hP (h11 0 (by decide)) k1 dX7_covered_8 ?_
      refine gfX1_0 S iX1 hK hP (by decide) ((fun r => hG 0 r (by decide)) 0 (by decide)) k2 dX7_covered_11 ?_
      refine gfX4_3 S iX4 hK hP (by decide) ((fun r => hG 0 r (by decide)) 1 (by decide)) k3 dX7_covered_14 ?_
      refine lv_icmp_ge (tgt := 53) S.1 S.2.1 dX7_covered_17 (by decide) (fun h_6 => ?_) (fun h_6 => ?_)
      · have hf := hf.1 h_6
        exact kx53 _ _ _ _ hf _ _ _ hP hD hS (lv_sub hl [1, 2] rfl)
      · have hf := hf.2 h_6
        refine lv_iload_n S.1 S.2.1 dX7_covered_20 rfl (lv_at hl 1 rfl) ?_
        refine lv_aload_n S.1 S.2.1 dX7_covered_21 rfl (lv_at hl 0 rfl) ?_
        refine gfX7_3 S iX7 hK hP (h11 0 (by decide)) k1 dX7_covered_22 ?_
        refine gfX1_2 S iX1 hK hP (by decide) ((fun r => hG 0 r (by decide)) 0 (by decide)) k4 dX7_covered_25 ?_
        refine lv_iload_n S.1 S.2.1 dX7_covered_28 rfl (lv_at hl 3 rfl) ?_
        obtain ⟨h_7, hf⟩ := hf
        refine R_iald S.1 S.2.1 hK hP ((fun r => hG 0 r (by decide)) 8 (by decide)) (IAg8 E (by decide)) h_7 dX7_covered_29 ?_
        refine lv_iadd S.1 S.2.1 dX7_covered_30 ?_
        refine lv_topi (fun x1_8 ex1_8 => ?_)
        have hf := hf x1_8 ex1_8
        refine lv_istore_n (lv' := [(1, .int x1_8), (0, .ref (eA E 11 0)), (2, .int x2_2), (3, .int x3_3)]) S.1 S.2.1 dX7_covered_31 rfl hl (by decide) rfl (fun ls hl => ?_)
        refine lv_iload_n S.1 S.2.1 dX7_covered_32 rfl (lv_at hl 2 rfl) ?_
        refine lv_aload_n S.1 S.2.1 dX7_covered_33 rfl (lv_at hl 1 rfl) ?_
        refine gfX7_3 S iX7 hK hP (h11 0 (by decide)) k1 dX7_covered_34 ?_
        refine gfX1_0 S iX1 hK hP (by decide) ((fun r => hG 0 r (by decide)) 0 (by decide)) k2 dX7_covered_37 ?_
        refine gfX4_0 S iX4 hK hP (by decide) ((fun r => hG 0 r (by decide)) 1 (by decide)) k5 dX7_covered_40 ?_
        refine lv_iload_n S.1 S.2.1 dX7_covered_43 rfl (lv_at hl 3 rfl) ?_
        obtain ⟨h_9, hf⟩ := hf
        refine R_iald S.1 S.2.1 hK hP ((fun r => hG 0 r (by decide)) 3 (by decide)) (IAg3 E (by decide)) h_9 dX7_covered_44 ?_
        refine lv_iadd S.1 S.2.1 dX7_covered_45 ?_
        refine lv_topi (fun x2_10 ex2_10 => ?_)
        have hf := hf x2_10 ex2_10
        refine lv_istore_n (lv' := [(2, .int x2_10), (1, .int x1_8), (0, .ref (eA E 11 0)), (3, .int x3_3)]) S.1 S.2.1 dX7_covered_46 rfl hl (by decide) rfl (fun ls hl => ?_)
        refine nm_o hf (fun x3_11 ex3_11 hf => ?_)
        refine lv_iinc (v := x3_11) (lv' := [(3, .int x3_11), (2, .int x2_10), (1, .int x1_8), (0, .ref (eA E 11 0))]) S.1 S.2.1 dX7_covered_47 hl (k := 3) rfl (by rw [ex3_11]; rfl) (by decide) rfl (fun ls hl => ?_)
        refine lv_goto (tgt := 6) S.1 S.2.1 dX7_covered_50 (by decide) ?_
        exact ih6 _ _ _ _ _ hf _ _ _ hP hD hS (lv_sub hl [3, 2, 1, 0] rfl)
  refine L6 _ (fun x1_12 x2_13 I_14 J_15 hf H locs ls hP hD hS hl => ?_)  n_18 _ _ _ _ _ hf _ _ _ hP hD hS (lv_sub hl [3, 2, 1, 0] rfl)
  refine lv_iload_n S.1 S.2.1 dX7_covered_53 rfl (lv_at hl 1 rfl) ?_
  refine lv_if_ne (tgt := 61) S.1 S.2.1 dX7_covered_54 (by decide) (fun h_16 => ?_) (fun h_16 => ?_)
  · have hf := hf.2 h_16
    refine lv_iload_n S.1 S.2.1 dX7_covered_61 rfl (lv_at hl 0 rfl) ?_
    refine lv_i2f S.1 S.2.1 dX7_covered_62 ?_
    refine lv_iload_n S.1 S.2.1 dX7_covered_63 rfl (lv_at hl 1 rfl) ?_
    refine lv_i2f S.1 S.2.1 dX7_covered_64 ?_
    obtain ⟨h_17, hf⟩ := hf
    refine lv_fdiv S.1 S.2.1 dX7_covered_65 h_17 ?_
    exact hret hf hP hD hS dX7_covered_66
  · have hf := hf.1 h_16
    refine lv_fconst0 S.1 S.2.1 dX7_covered_57 ?_
    refine lv_goto (tgt := 66) S.1 S.2.1 dX7_covered_58 (by decide) ?_
    exact hret hf hP hD hS dX7_covered_66
abbrev rmX8_covered : Room := { frames := 2, cells := 0, slots := 0, locals := 42 }
theorem yk_X8_covered : yOk yX8_covered RX8 0 := by unfold yOk; decide +kernel
def f_X8_covered_B11 (K45 : Int32 → Int32 → MI → MJ → Prop) (rec11 : Int32 → Int32 → Int32 → MI → MJ → Prop) (x1_2 : Int32) (x2_3 : Int32) (x3_4 : Int32) (I_5 : MI) (J_6 : MJ) : Prop :=
  (vp_in (0 : Int32) 1802 ∧ (((I_5 12 2 (0 : Int32).toNatClampNeg) ≤ x3_4 → K45 x1_2 x2_3 I_5 J_6) ∧ (¬ (I_5 12 2 (0 : Int32).toNatClampNeg) ≤ x3_4 → f_X8_ofRow x3_4 (1 : Int32) I_5 J_6 (fun (v_11 : Int32) (I_9 : MI) (J_10 : MJ) => ∀ x1_12 : Int32, x1_12 = (x1_2 + v_11) → f_X8_ofRow x3_4 (0 : Int32) I_9 J_10 (fun (v_15 : Int32) (I_13 : MI) (J_14 : MJ) => ∀ x2_16 : Int32, x2_16 = (x2_3 + v_15) → ∀ x3_17 : Int32, x3_17 = x3_4 + (1 : Int32) → rec11 x1_12 x2_16 x3_17 I_13 J_14)))))
def f_X8_covered_L11 (K45 : Int32 → Int32 → MI → MJ → Prop) : Nat → Int32 → Int32 → Int32 → MI → MJ → Prop
  | 0, _, _, _, _, _ => False
  | n + 1, x1_2, x2_3, x3_4, I_5, J_6 => f_X8_covered_B11 K45 (f_X8_covered_L11 K45 n) x1_2 x2_3 x3_4 I_5 J_6
def f_X8_covered (I : MI) (J : MJ) (Q : UInt32 → MI → MJ → Prop) : Prop :=
  ∀ I_1 : MI, I_1 = sI I 12 0 0 (0 : Int32) → ∃ n : Nat, f_X8_covered_L11 (fun (x1_18 : Int32) (x2_19 : Int32) (I_20 : MI) (J_21 : MJ) => (vf_n32 (FP.fdiv (FP.i2f x1_18) (FP.i2f x2_19)) ∧ Q (FP.fdiv (FP.i2f x1_18) (FP.i2f x2_19)) I_20 J_21)) n (0 : Int32) (0 : Int32) (0 : Int32) I_1 J
set_option maxRecDepth 100000 in
set_option maxHeartbeats 4000000 in
theorem c_X8_covered {l : Launch} {E : EV} {ps : List (Nat × Nat)} (h12 : ∀ r, r < 17 → (12, r) ∈ ps) {I : MI} {J : MJ} {Q : UInt32 → MI → MJ → Prop} (hf : f_X8_covered I J Q) : KF l yX8_covered wsX8_covered rmX8_covered E ps [.ref (eA E 12 0)] I J Q := by
  refine K_ofF (cc := cX8_covered) (maxL := 4) (by decide +kernel) rfl (Nat.le_of_ble_eq_true rfl) (fun p e s m args below meth c Qm hret S hK hX => ?_)
  have hA : ∀ q, s.heap.size ≤ q → AA E ps s.heap.size q := fun _ h => Or.inr h
  have k1 := S.2.2.2.2 (.fieldLink RX8 49 "RhymeRoofsModel" "thrown" "I") (by decide +kernel)
  have iX8 : ∀ w ∈ wsX80, w ∈ wsX8_covered := fun _ h => List.mem_cons_of_mem _ (List.mem_append_right _ h)
  have k2 := S.2.2.2.2 (.fieldLink RX8 17 "RhymeRoofsModel" "data" "[I") (by decide +kernel)
  intro H locs ls hP hD hS hl
  unfold f_X8_covered at hf
  refine lv_aload_n S.1 S.2.1 dX8_covered_0 rfl (lv_at hl 0 rfl) ?_
  refine lv_iconst (v := 0) S.1 S.2.1 dX8_covered_1 rfl ?_
  refine nm_o hf (fun I_1 eI_1 hf => ?_)
  refine pfX8_0 S iX8 hK hP hD hS (h12 0 (by decide)) k1 dX8_covered_2 eI_1 (fun H locs hP hD hS => ?_)
  refine lv_iconst (v := 0) S.1 S.2.1 dX8_covered_5 rfl ?_
  refine lv_istore_n (lv' := [(1, .int (0 : Int32)), (0, .ref (eA E 12 0))]) S.1 S.2.1 dX8_covered_6 rfl hl (by decide) rfl (fun ls hl => ?_)
  refine lv_iconst (v := 0) S.1 S.2.1 dX8_covered_7 rfl ?_
  refine lv_istore_n (lv' := [(2, .int (0 : Int32)), (1, .int (0 : Int32)), (0, .ref (eA E 12 0))]) S.1 S.2.1 dX8_covered_8 rfl hl (by decide) rfl (fun ls hl => ?_)
  refine lv_iconst (v := 0) S.1 S.2.1 dX8_covered_9 rfl ?_
  refine lv_istore_n (lv' := [(3, .int (0 : Int32)), (2, .int (0 : Int32)), (1, .int (0 : Int32)), (0, .ref (eA E 12 0))]) S.1 S.2.1 dX8_covered_10 rfl hl (by decide) rfl (fun ls hl => ?_)
  obtain ⟨n_23, hf⟩ := hf
  have L11 : ∀ (K45 : Int32 → Int32 → MI → MJ → Prop), (∀ (x1_18 : Int32) (x2_19 : Int32) (I_20 : MI) (J_21 : MJ), K45 x1_18 x2_19 I_20 J_21 → Wj p l e (rmX8_covered) s m args below meth c Qm E ps 4 I_20 J_21 45 [(1, .int x1_18), (2, .int x2_19)] []) → ∀ (n : Nat) (x1_2 : Int32) (x2_3 : Int32) (x3_4 : Int32) (I_5 : MI) (J_6 : MJ), f_X8_covered_L11 K45 n x1_2 x2_3 x3_4 I_5 J_6 → Wj p l e (rmX8_covered) s m args below meth c Qm E ps 4 I_5 J_6 11 [(0, .ref (eA E 12 0)), (1, .int x1_2), (2, .int x2_3), (3, .int x3_4)] [] := by
    intro K45 kx45 n
    induction n with
    | zero => intro x1_2 x2_3 x3_4 I_5 J_6 hf; exact hf.elim
    | succ n ih11 =>
      intro x1_2 x2_3 x3_4 I_5 J_6 hf
      have hf : f_X8_covered_B11 K45 (f_X8_covered_L11 K45 n) x1_2 x2_3 x3_4 I_5 J_6 := hf
      intro H locs ls hP hD hS hl
      unfold f_X8_covered_B11 at hf
      refine lv_iload_n S.1 S.2.1 dX8_covered_11 rfl (lv_at hl 3 rfl) ?_
      refine lv_aload_n S.1 S.2.1 dX8_covered_12 rfl (lv_at hl 0 rfl) ?_
      refine gfX8_8 S iX8 hK hP (h12 0 (by decide)) k2 dX8_covered_13 ?_
      refine lv_iconst (v := 0) S.1 S.2.1 dX8_covered_16 rfl ?_
      obtain ⟨h_7, hf⟩ := hf
      refine R_iald S.1 S.2.1 hK hP (h12 2 (by decide)) (IAm2 E) h_7 dX8_covered_17 ?_
      refine lv_icmp_ge (tgt := 45) S.1 S.2.1 dX8_covered_18 (by decide) (fun h_8 => ?_) (fun h_8 => ?_)
      · have hf := hf.1 h_8
        exact kx45 _ _ _ _ hf _ _ _ hP hD hS (lv_sub hl [1, 2] rfl)
      · have hf := hf.2 h_8
        refine lv_iload_n S.1 S.2.1 dX8_covered_21 rfl (lv_at hl 1 rfl) ?_
        refine lv_aload_n S.1 S.2.1 dX8_covered_22 rfl (lv_at hl 0 rfl) ?_
        refine lv_iload_n S.1 S.2.1 dX8_covered_23 rfl (lv_at hl 3 rfl) ?_
        refine lv_iconst (v := 1) S.1 S.2.1 dX8_covered_24 rfl ?_
        refine R_cVi (As := [.int x3_4, .int (1 : Int32)]) (rest := [.int x1_2]) S (c_X8_ofRow (h12 := h12)  hf) gX8_covered_X8_ofRow rfl yk_X8_ofRow ⟨⟨Nat.le_of_ble_eq_true rfl, Nat.le_of_ble_eq_true rfl⟩, rfl, rfl⟩ hK hP hD hS hX hA (h12 0 (by decide)) (cF_m E _ _ 0) rfl rfl hl.1 rfl (Nat.le_of_ble_eq_true rfl) ⟨Nat.zero_le _, Nat.zero_le _⟩ dX8_covered_25 (fun v_11 I_9 J_10 H locs hf hP hD hS => ?_)
        refine lv_iadd S.1 S.2.1 dX8_covered_28 ?_
        refine lv_topi (fun x1_12 ex1_12 => ?_)
        have hf := hf x1_12 ex1_12
        refine lv_istore_n (lv' := [(1, .int x1_12), (0, .ref (eA E 12 0)), (2, .int x2_3), (3, .int x3_4)]) S.1 S.2.1 dX8_covered_29 rfl hl (by decide) rfl (fun ls hl => ?_)
        refine lv_iload_n S.1 S.2.1 dX8_covered_30 rfl (lv_at hl 2 rfl) ?_
        refine lv_aload_n S.1 S.2.1 dX8_covered_31 rfl (lv_at hl 1 rfl) ?_
        refine lv_iload_n S.1 S.2.1 dX8_covered_32 rfl (lv_at hl 3 rfl) ?_
        refine lv_iconst (v := 0) S.1 S.2.1 dX8_covered_33 rfl ?_
        refine R_cVi (As := [.int x3_4, .int (0 : Int32)]) (rest := [.int x2_3]) S (c_X8_ofRow (h12 := h12)  hf) gX8_covered_X8_ofRow rfl yk_X8_ofRow ⟨⟨Nat.le_of_ble_eq_true rfl, Nat.le_of_ble_eq_true rfl⟩, rfl, rfl⟩ hK hP hD hS hX hA (h12 0 (by decide)) (cF_m E _ _ 0) rfl rfl hl.1 rfl (Nat.le_of_ble_eq_true rfl) ⟨Nat.zero_le _, Nat.zero_le _⟩ dX8_covered_34 (fun v_15 I_13 J_14 H locs hf hP hD hS => ?_)
        refine lv_iadd S.1 S.2.1 dX8_covered_37 ?_
        refine lv_topi (fun x2_16 ex2_16 => ?_)
        have hf := hf x2_16 ex2_16
        refine lv_istore_n (lv' := [(2, .int x2_16), (1, .int x1_12), (0, .ref (eA E 12 0)), (3, .int x3_4)]) S.1 S.2.1 dX8_covered_38 rfl hl (by decide) rfl (fun ls hl => ?_)
        refine nm_o hf (fun x3_17 ex3_17 hf => ?_)
        refine lv_iinc (v := x3_17) (lv' := [(3, .int x3_17), (2, .int x2_16), (1, .int x1_12), (0, .ref (eA E 12 0))]) S.1 S.2.1 dX8_covered_39 hl (k := 3) rfl (by rw [ex3_17]; rfl) (by decide) rfl (fun ls hl => ?_)
        refine lv_goto (tgt := 11) S.1 S.2.1 dX8_covered_42 (by decide) ?_
        exact ih11 _ _ _ _ _ hf _ _ _ hP hD hS (lv_sub hl [3, 2, 1, 0] rfl)
  refine L11 _ (fun x1_18 x2_19 I_20 J_21 hf H locs ls hP hD hS hl => ?_)  n_23 _ _ _ _ _ hf _ _ _ hP hD hS (lv_sub hl [3, 2, 1, 0] rfl)
  refine lv_iload_n S.1 S.2.1 dX8_covered_45 rfl (lv_at hl 0 rfl) ?_
  refine lv_i2f S.1 S.2.1 dX8_covered_46 ?_
  refine lv_iload_n S.1 S.2.1 dX8_covered_47 rfl (lv_at hl 1 rfl) ?_
  refine lv_i2f S.1 S.2.1 dX8_covered_48 ?_
  obtain ⟨h_22, hf⟩ := hf
  refine lv_fdiv S.1 S.2.1 dX8_covered_49 h_22 ?_
  exact hret hf hP hD hS dX8_covered_50
