abbrev rmX4_reset : Room := { frames := 2, cells := 0, slots := 0, locals := 41 }
theorem yk_X4_reset : yOk yX4_reset RX4 0 := by unfold yOk; decide +kernel
def f_X4_reset_B18 (b : Nat) (K40 : MI → MJ → Prop) (rec18 : Int32 → MI → MJ → Prop) (x1_5 : Int32) (I_6 : MI) (J_7 : MJ) : Prop :=
  (((32 : Int32) ≤ x1_5 → K40 I_6 J_7) ∧ (¬ (32 : Int32) ≤ x1_5 → (vp_in x1_5 32 ∧ ∀ I_10 : MI, I_10 = sI I_6 b 4 x1_5.toNatClampNeg x1_5 → ∀ x1_11 : Int32, x1_11 = x1_5 + (1 : Int32) → rec18 x1_11 I_10 J_7)))
def f_X4_reset_L18 (b : Nat) (K40 : MI → MJ → Prop) : Nat → Int32 → MI → MJ → Prop
  | 0, _, _, _ => False
  | n + 1, x1_5, I_6, J_7 => f_X4_reset_B18 b K40 (f_X4_reset_L18 b K40 n) x1_5 I_6 J_7
def f_X4_reset (b : Nat) (I : MI) (J : MJ) (Q : MI → MJ → Prop) : Prop :=
  f_J7_fill_53178 b 3 6 (0 : Int32) I J (fun (I_1 : MI) (J_2 : MJ) => (vp_in (0 : Int32) 6 ∧ ∀ I_4 : MI, I_4 = sI I_1 b 3 (0 : Int32).toNatClampNeg (10 : Int32) → ∃ n : Nat, f_X4_reset_L18 b (fun (I_12 : MI) (J_13 : MJ) => f_X3_reset b I_12 J_13 (fun (I_14 : MI) (J_15 : MJ) => ∀ I_16 : MI, I_16 = sI I_14 b 1 3 (1 : Int32) → ∀ I_17 : MI, I_17 = sI I_16 b 1 4 (2 : Int32) → ∀ I_18 : MI, I_18 = sI I_17 b 1 5 (2 : Int32) → ∀ I_19 : MI, I_19 = sI I_18 b 1 6 (1 : Int32) → ∀ I_20 : MI, I_20 = sI I_19 b 1 7 (5 : Int32) → Q I_20 J_15)) n (0 : Int32) I_4 J_2))
set_option maxRecDepth 100000 in
set_option maxHeartbeats 4000000 in
theorem c_X4_reset {l : Launch} {E : EV} {ps : List (Nat × Nat)} {b : Nat} (hB : b < 11) (hM : ∀ r, r < 16 → (b, r) ∈ ps) {I : MI} {J : MJ} {Q : MI → MJ → Prop} (hf : f_X4_reset b I J Q) : KV l yX4_reset wsX4_reset rmX4_reset E ps [.ref (eA E b 1)] I J Q := by
  refine K_ofV (cc := cX4_reset) (maxL := 2) (by decide +kernel) rfl (Nat.le_of_ble_eq_true rfl) (fun p e s m args below meth c Qm hret S hK hX => ?_)
  have hA : ∀ q, s.heap.size ≤ q → AA E ps s.heap.size q := fun _ h => Or.inr h
  have k1 := S.2.2.2.2 (.fieldLink RX4 9 "RhymeRoofs$Rules" "tiles" "[I") (by decide +kernel)
  have iX4 : ∀ w ∈ wsX40, w ∈ wsX4_reset := fun _ h => List.mem_cons_of_mem _ (List.mem_append_left _ (List.mem_append_right _ h))
  have k2 := S.2.2.2.2 (.fieldLink RX4 17 "RhymeRoofs$Rules" "groups" "[I") (by decide +kernel)
  have k3 := S.2.2.2.2 (.fieldLink RX4 23 "RhymeRoofs$Rules" "rank" "LRhymeRoofs$Rank;") (by decide +kernel)
  have k4 := S.2.2.2.2 (.fieldLink RX4 36 "RhymeRoofs$Rules" "rows" "I") (by decide +kernel)
  have k5 := S.2.2.2.2 (.fieldLink RX4 40 "RhymeRoofs$Rules" "players" "I") (by decide +kernel)
  have k6 := S.2.2.2.2 (.fieldLink RX4 43 "RhymeRoofs$Rules" "need" "I") (by decide +kernel)
  have k7 := S.2.2.2.2 (.fieldLink RX4 46 "RhymeRoofs$Rules" "bonus" "I") (by decide +kernel)
  have k8 := S.2.2.2.2 (.fieldLink RX4 49 "RhymeRoofs$Rules" "crown" "I") (by decide +kernel)
  intro H locs ls hP hD hS hl
  unfold f_X4_reset at hf
  refine lv_aload_n S.1 S.2.1 dX4_reset_0 rfl (lv_at hl 0 rfl) ?_
  refine gfX4_0 S iX4 hK hP hB (hM 1 (by decide)) k1 dX4_reset_1 ?_
  refine lv_iconst (v := 0) S.1 S.2.1 dX4_reset_4 rfl ?_
  refine R_cSv (As := [.ref (eA E b 3), .int (0 : Int32)]) (rest := []) S (c_J7_fill_53178  (hm1 := (hM 3 (by decide))) (hc1 := (IAg3 E hB)) hf) gX4_reset_J7_fill_53178 rfl yk_J7_fill_53178 ⟨⟨Nat.le_of_ble_eq_true rfl, Nat.le_of_ble_eq_true rfl⟩, rfl, rfl⟩ hK hP hD hS hX hA rfl hl.1 rfl (Nat.le_of_ble_eq_true rfl) ⟨Nat.zero_le _, Nat.zero_le _⟩ dX4_reset_5 (fun I_1 J_2 H locs hf hP hD hS => ?_)
  refine lv_aload_n S.1 S.2.1 dX4_reset_8 rfl (lv_at hl 0 rfl) ?_
  refine gfX4_0 S iX4 hK hP hB (hM 1 (by decide)) k1 dX4_reset_9 ?_
  refine lv_iconst (v := 0) S.1 S.2.1 dX4_reset_12 rfl ?_
  refine lv_bipush (v := 10) S.1 S.2.1 dX4_reset_13 rfl ?_
  obtain ⟨h_3, hf⟩ := hf
  refine nm_o hf (fun I_4 eI_4 hf => ?_)
  refine R_iast S.1 S.2.1 hK hP hD hS (hM 3 (by decide)) (IAg3 E hB) h_3 dX4_reset_15 eI_4 (fun H locs hP hD hS => ?_)
  refine lv_iconst (v := 0) S.1 S.2.1 dX4_reset_16 rfl ?_
  refine lv_istore_n (lv' := [(1, .int (0 : Int32)), (0, .ref (eA E b 1))]) S.1 S.2.1 dX4_reset_17 rfl hl (by decide) rfl (fun ls hl => ?_)
  obtain ⟨n_21, hf⟩ := hf
  have L18 : ∀ (K40 : MI → MJ → Prop), (∀ (I_12 : MI) (J_13 : MJ), K40 I_12 J_13 → Wj p l e (rmX4_reset) s m args below meth c Qm E ps 2 I_12 J_13 40 [(0, .ref (eA E b 1))] []) → ∀ (n : Nat) (x1_5 : Int32) (I_6 : MI) (J_7 : MJ), f_X4_reset_L18 b K40 n x1_5 I_6 J_7 → Wj p l e (rmX4_reset) s m args below meth c Qm E ps 2 I_6 J_7 18 [(0, .ref (eA E b 1)), (1, .int x1_5)] [] := by
    intro K40 kx40 n
    induction n with
    | zero => intro x1_5 I_6 J_7 hf; exact hf.elim
    | succ n ih18 =>
      intro x1_5 I_6 J_7 hf
      have hf : f_X4_reset_B18 b K40 (f_X4_reset_L18 b K40 n) x1_5 I_6 J_7 := hf
      intro H locs ls hP hD hS hl
      unfold f_X4_reset_B18 at hf
      refine lv_iload_n S.1 S.2.1 dX4_reset_18 rfl (lv_at hl 1 rfl) ?_
      refine lv_aload_n S.1 S.2.1 dX4_reset_19 rfl (lv_at hl 0 rfl) ?_
      refine gfX4_1 S iX4 hK hP hB (hM 1 (by decide)) k2 dX4_reset_20 ?_
      refine R_alenI S.1 S.2.1 hK hP (hM 4 (by decide)) (IAg4 E hB) dX4_reset_23 ?_
      refine lv_icmp_ge (tgt := 40) S.1 S.2.1 dX4_reset_24 (by decide) (fun h_8 => ?_) (fun h_8 => ?_)
      · have hf := hf.1 h_8
        exact kx40 _ _ hf _ _ _ hP hD hS (lv_sub hl [0] rfl)
      · have hf := hf.2 h_8
        refine lv_aload_n S.1 S.2.1 dX4_reset_27 rfl (lv_at hl 0 rfl) ?_
        refine gfX4_1 S iX4 hK hP hB (hM 1 (by decide)) k2 dX4_reset_28 ?_
        refine lv_iload_n S.1 S.2.1 dX4_reset_31 rfl (lv_at hl 1 rfl) ?_
        refine lv_iload_n S.1 S.2.1 dX4_reset_32 rfl (lv_at hl 1 rfl) ?_
        obtain ⟨h_9, hf⟩ := hf
        refine nm_o hf (fun I_10 eI_10 hf => ?_)
        refine R_iast S.1 S.2.1 hK hP hD hS (hM 4 (by decide)) (IAg4 E hB) h_9 dX4_reset_33 eI_10 (fun H locs hP hD hS => ?_)
        refine nm_o hf (fun x1_11 ex1_11 hf => ?_)
        refine lv_iinc (v := x1_11) (lv' := [(1, .int x1_11), (0, .ref (eA E b 1))]) S.1 S.2.1 dX4_reset_34 hl (k := 1) rfl (by rw [ex1_11]; rfl) (by decide) rfl (fun ls hl => ?_)
        refine lv_goto (tgt := 18) S.1 S.2.1 dX4_reset_37 (by decide) ?_
        exact ih18 _ _ _ hf _ _ _ hP hD hS (lv_sub hl [1, 0] rfl)
  refine L18 _ (fun I_12 J_13 hf H locs ls hP hD hS hl => ?_)  n_21 _ _ _ hf _ _ _ hP hD hS (lv_sub hl [1, 0] rfl)
  refine lv_aload_n S.1 S.2.1 dX4_reset_40 rfl (lv_at hl 0 rfl) ?_
  refine gfX4_2 S iX4 hK hP hB (hM 1 (by decide)) k3 dX4_reset_41 ?_
  refine R_cVv (As := []) (rest := []) S (c_X3_reset (hB := hB) (hM := hM)  hf) gX4_reset_X3_reset rfl yk_X3_reset ⟨⟨Nat.le_of_ble_eq_true rfl, Nat.le_of_ble_eq_true rfl⟩, rfl, rfl⟩ hK hP hD hS hX hA (hM 2 (by decide)) (cF_g E hB _ _ 2) rfl rfl hl.1 rfl (Nat.le_of_ble_eq_true rfl) ⟨Nat.zero_le _, Nat.zero_le _⟩ dX4_reset_44 (fun I_14 J_15 H locs hf hP hD hS => ?_)
  refine lv_aload_n S.1 S.2.1 dX4_reset_47 rfl (lv_at hl 0 rfl) ?_
  refine lv_iconst (v := 1) S.1 S.2.1 dX4_reset_48 rfl ?_
  refine nm_o hf (fun I_16 eI_16 hf => ?_)
  refine pfX4_3 S iX4 hK hP hD hS hB (hM 1 (by decide)) k4 dX4_reset_49 eI_16 (fun H locs hP hD hS => ?_)
  refine lv_aload_n S.1 S.2.1 dX4_reset_52 rfl (lv_at hl 0 rfl) ?_
  refine lv_iconst (v := 2) S.1 S.2.1 dX4_reset_53 rfl ?_
  refine nm_o hf (fun I_17 eI_17 hf => ?_)
  refine pfX4_4 S iX4 hK hP hD hS hB (hM 1 (by decide)) k5 dX4_reset_54 eI_17 (fun H locs hP hD hS => ?_)
  refine lv_aload_n S.1 S.2.1 dX4_reset_57 rfl (lv_at hl 0 rfl) ?_
  refine lv_iconst (v := 2) S.1 S.2.1 dX4_reset_58 rfl ?_
  refine nm_o hf (fun I_18 eI_18 hf => ?_)
  refine pfX4_5 S iX4 hK hP hD hS hB (hM 1 (by decide)) k6 dX4_reset_59 eI_18 (fun H locs hP hD hS => ?_)
  refine lv_aload_n S.1 S.2.1 dX4_reset_62 rfl (lv_at hl 0 rfl) ?_
  refine lv_iconst (v := 1) S.1 S.2.1 dX4_reset_63 rfl ?_
  refine nm_o hf (fun I_19 eI_19 hf => ?_)
  refine pfX4_6 S iX4 hK hP hD hS hB (hM 1 (by decide)) k7 dX4_reset_64 eI_19 (fun H locs hP hD hS => ?_)
  refine lv_aload_n S.1 S.2.1 dX4_reset_67 rfl (lv_at hl 0 rfl) ?_
  refine lv_iconst (v := 5) S.1 S.2.1 dX4_reset_68 rfl ?_
  refine nm_o hf (fun I_20 eI_20 hf => ?_)
  refine pfX4_7 S iX4 hK hP hD hS hB (hM 1 (by decide)) k8 dX4_reset_69 eI_20 (fun H locs hP hD hS => ?_)
  exact hret hf hP hD hS dX4_reset_72
