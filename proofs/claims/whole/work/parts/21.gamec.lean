abbrev rmX1_obstacle : Room := { frames := 1, cells := 0, slots := 0, locals := 29 }
theorem yk_X1_obstacle : yOk yX1_obstacle RX1 2 := by unfold yOk; decide +kernel
def f_X1_obstacle (b : Nat) (x1 : Int64) (x3 : Int32) (I : MI) (J : MJ) (Q : Int32 → MI → MJ → Prop) : Prop :=
  f_X6_length x1 I J (fun (v_3 : Int32) (I_1 : MI) (J_2 : MJ) => f_X1_freeTiles b x3 I_1 J_2 (fun (v_6 : Int32) (I_4 : MI) (J_5 : MJ) => ((v_3 ≤ v_6 → (vp_in x3 6 ∧ (((I_4 b 9 x3.toNatClampNeg) = (0 : Int32) → Q (0 : Int32) I_4 J_5) ∧ (¬ (I_4 b 9 x3.toNatClampNeg) = (0 : Int32) → (vp_in x3 6 ∧ ((x1 = (J_5 b 10 x3.toNatClampNeg) → Q (3 : Int32) I_4 J_5) ∧ (¬ x1 = (J_5 b 10 x3.toNatClampNeg) → (vp_in x3 6 ∧ f_X4_rhymeOf b x1 (J_5 b 10 x3.toNatClampNeg) I_4 J_5 (fun (v_15 : Int32) (I_13 : MI) (J_14 : MJ) => (((I_13 b 1 5) ≤ v_15 → Q (0 : Int32) I_13 J_14) ∧ (¬ (I_13 b 1 5) ≤ v_15 → Q (4 : Int32) I_13 J_14))))))))))) ∧ (¬ v_3 ≤ v_6 → Q (2 : Int32) I_4 J_5))))
set_option maxRecDepth 100000 in
set_option maxHeartbeats 4000000 in
theorem c_X1_obstacle {l : Launch} {E : EV} {ps : List (Nat × Nat)} {b : Nat} (hB : b < 11) (hM : ∀ r, r < 16 → (b, r) ∈ ps) {x1 : Int64} {x3 : Int32} {I : MI} {J : MJ} {Q : Int32 → MI → MJ → Prop} (hf : f_X1_obstacle b x1 x3 I J Q) : KI l yX1_obstacle wsX1_obstacle rmX1_obstacle E ps [.ref (eA E b 0), .long x1, .int x3] I J Q := by
  refine K_ofI (cc := cX1_obstacle) (maxL := 4) (ty := .int) (by decide +kernel) rfl (Nat.le_of_ble_eq_true rfl) (fun p e s m args below meth c Qm hret S hK hX => ?_)
  have hA : ∀ q, s.heap.size ≤ q → AA E ps s.heap.size q := fun _ h => Or.inr h
  have k1 := S.2.2.2.2 (.fieldLink RX1 25 "RhymeRoofs$Game" "wordsOn" "[I") (by decide +kernel)
  have iX1 : ∀ w ∈ wsX10, w ∈ wsX1_obstacle := fun _ h => List.mem_cons_of_mem _ (List.mem_append_left _ (List.mem_append_right _ h))
  have k2 := S.2.2.2.2 (.fieldLink RX1 28 "RhymeRoofs$Game" "lastOn" "[J") (by decide +kernel)
  have k3 := S.2.2.2.2 (.fieldLink RX1 12 "RhymeRoofs$Game" "rules" "LRhymeRoofs$Rules;") (by decide +kernel)
  have k4 := S.2.2.2.2 (.fieldLink RX1 89 "RhymeRoofs$Rules" "need" "I") (by decide +kernel)
  have iX4 : ∀ w ∈ wsX40, w ∈ wsX1_obstacle := fun _ h => List.mem_cons_of_mem _ (List.mem_append_right _ h)
  intro H locs ls hP hD hS hl
  unfold f_X1_obstacle at hf
  refine lv_lload_n S.1 S.2.1 dX1_obstacle_0 rfl (lv_at hl 1 rfl) ?_
  refine R_cSi (As := [.long x1]) (rest := []) S (c_X6_length   hf) gX1_obstacle_X6_length rfl yk_X6_length ⟨⟨Nat.le_of_ble_eq_true rfl, Nat.le_of_ble_eq_true rfl⟩, rfl, rfl⟩ hK hP hD hS hX hA rfl hl.1 rfl (Nat.le_of_ble_eq_true rfl) ⟨Nat.zero_le _, Nat.zero_le _⟩ dX1_obstacle_1 (fun v_3 I_1 J_2 H locs hf hP hD hS => ?_)
  refine lv_aload_n S.1 S.2.1 dX1_obstacle_4 rfl (lv_at hl 0 rfl) ?_
  refine lv_iload_n S.1 S.2.1 dX1_obstacle_5 rfl (lv_at hl 2 rfl) ?_
  refine R_cVi (As := [.int x3]) (rest := [.int v_3]) S (c_X1_freeTiles (hB := hB) (hM := hM)  hf) gX1_obstacle_X1_freeTiles rfl yk_X1_freeTiles ⟨⟨Nat.le_of_ble_eq_true rfl, Nat.le_of_ble_eq_true rfl⟩, rfl, rfl⟩ hK hP hD hS hX hA (hM 0 (by decide)) (cF_g E hB _ _ 0) rfl rfl hl.1 rfl (Nat.le_of_ble_eq_true rfl) ⟨Nat.zero_le _, Nat.zero_le _⟩ dX1_obstacle_6 (fun v_6 I_4 J_5 H locs hf hP hD hS => ?_)
  refine lv_icmp_le (tgt := 14) S.1 S.2.1 dX1_obstacle_9 (by decide) (fun h_7 => ?_) (fun h_7 => ?_)
  · have hf := hf.1 h_7
    refine lv_aload_n S.1 S.2.1 dX1_obstacle_14 rfl (lv_at hl 0 rfl) ?_
    refine gfX1_3 S iX1 hK hP hB (hM 0 (by decide)) k1 dX1_obstacle_15 ?_
    refine lv_iload_n S.1 S.2.1 dX1_obstacle_18 rfl (lv_at hl 2 rfl) ?_
    obtain ⟨h_8, hf⟩ := hf
    refine R_iald S.1 S.2.1 hK hP (hM 9 (by decide)) (IAg9 E hB) h_8 dX1_obstacle_19 ?_
    refine lv_if_ne (tgt := 25) S.1 S.2.1 dX1_obstacle_20 (by decide) (fun h_9 => ?_) (fun h_9 => ?_)
    · have hf := hf.2 h_9
      refine lv_lload_n S.1 S.2.1 dX1_obstacle_25 rfl (lv_at hl 1 rfl) ?_
      refine lv_aload_n S.1 S.2.1 dX1_obstacle_26 rfl (lv_at hl 0 rfl) ?_
      refine gfX1_4 S iX1 hK hP hB (hM 0 (by decide)) k2 dX1_obstacle_27 ?_
      refine lv_iload_n S.1 S.2.1 dX1_obstacle_30 rfl (lv_at hl 2 rfl) ?_
      obtain ⟨h_10, hf⟩ := hf
      refine R_lald S.1 S.2.1 hK hP (hM 10 (by decide)) (LAg10 E hB) h_10 dX1_obstacle_31 ?_
      refine W.lcmp S.1 S.2.1 dX1_obstacle_32 ?_
      refine lv_if_ne (tgt := 38) S.1 S.2.1 dX1_obstacle_33 (by decide) (fun h_11 => ?_) (fun h_11 => ?_)
      · have hf := hf.2 (fun q => h_11 ((lg_eq0 _ _).mpr q))
        refine lv_aload_n S.1 S.2.1 dX1_obstacle_38 rfl (lv_at hl 0 rfl) ?_
        refine gfX1_0 S iX1 hK hP hB (hM 0 (by decide)) k3 dX1_obstacle_39 ?_
        refine lv_lload_n S.1 S.2.1 dX1_obstacle_42 rfl (lv_at hl 1 rfl) ?_
        refine lv_aload_n S.1 S.2.1 dX1_obstacle_43 rfl (lv_at hl 0 rfl) ?_
        refine gfX1_4 S iX1 hK hP hB (hM 0 (by decide)) k2 dX1_obstacle_44 ?_
        refine lv_iload_n S.1 S.2.1 dX1_obstacle_47 rfl (lv_at hl 2 rfl) ?_
        obtain ⟨h_12, hf⟩ := hf
        refine R_lald S.1 S.2.1 hK hP (hM 10 (by decide)) (LAg10 E hB) h_12 dX1_obstacle_48 ?_
        refine R_cVi (As := [.long x1, .long (J_5 b 10 x3.toNatClampNeg)]) (rest := []) S (c_X4_rhymeOf (hB := hB) (hM := hM)  hf) gX1_obstacle_X4_rhymeOf rfl yk_X4_rhymeOf ⟨⟨Nat.le_of_ble_eq_true rfl, Nat.le_of_ble_eq_true rfl⟩, rfl, rfl⟩ hK hP hD hS hX hA (hM 1 (by decide)) (cF_g E hB _ _ 1) rfl rfl hl.1 rfl (Nat.le_of_ble_eq_true rfl) ⟨Nat.zero_le _, Nat.zero_le _⟩ dX1_obstacle_49 (fun v_15 I_13 J_14 H locs hf hP hD hS => ?_)
        refine lv_aload_n S.1 S.2.1 dX1_obstacle_52 rfl (lv_at hl 0 rfl) ?_
        refine gfX1_0 S iX1 hK hP hB (hM 0 (by decide)) k3 dX1_obstacle_53 ?_
        refine gfX4_5 S iX4 hK hP hB (hM 1 (by decide)) k4 dX1_obstacle_56 ?_
        refine lv_icmp_ge (tgt := 66) S.1 S.2.1 dX1_obstacle_59 (by decide) (fun h_16 => ?_) (fun h_16 => ?_)
        · have hf := hf.1 h_16
          refine lv_iconst (v := 0) S.1 S.2.1 dX1_obstacle_66 rfl ?_
          exact hret hf rfl hP hD hS dX1_obstacle_67
        · have hf := hf.2 h_16
          refine lv_iconst (v := 4) S.1 S.2.1 dX1_obstacle_62 rfl ?_
          refine lv_goto (tgt := 67) S.1 S.2.1 dX1_obstacle_63 (by decide) ?_
          exact hret hf rfl hP hD hS dX1_obstacle_67
      · have hf := hf.1 ((lg_eq0 _ _).mp h_11)
        refine lv_iconst (v := 3) S.1 S.2.1 dX1_obstacle_36 rfl ?_
        exact hret hf rfl hP hD hS dX1_obstacle_37
    · have hf := hf.1 h_9
      refine lv_iconst (v := 0) S.1 S.2.1 dX1_obstacle_23 rfl ?_
      exact hret hf rfl hP hD hS dX1_obstacle_24
  · have hf := hf.2 h_7
    refine lv_iconst (v := 2) S.1 S.2.1 dX1_obstacle_12 rfl ?_
    exact hret hf rfl hP hD hS dX1_obstacle_13
abbrev rmX1_canFill : Room := { frames := 2, cells := 0, slots := 0, locals := 52 }
theorem yk_X1_canFill : yOk yX1_canFill RX1 2 := by unfold yOk; decide +kernel
def f_X1_canFill_B2 (b : Nat) (x1_1 : Int32) (x2_2 : Int32) (K51 : MI → MJ → Prop) (K43 : MI → MJ → Prop) (rec2 : Int32 → MI → MJ → Prop) (x3_3 : Int32) (I_4 : MI) (J_5 : MJ) : Prop :=
  (vp_in x1_1 4 ∧ (((I_4 b 13 x1_1.toNatClampNeg) ≤ x3_3 → K51 I_4 J_5) ∧ (¬ (I_4 b 13 x1_1.toNatClampNeg) ≤ x3_3 → f_X1_wordOf b x1_1 x3_3 I_4 J_5 (fun (v_10 : Int64) (I_8 : MI) (J_9 : MJ) => f_X6_length v_10 I_8 J_9 (fun (v_13 : Int32) (I_11 : MI) (J_12 : MJ) => f_X1_freeTiles b x2_2 I_11 J_12 (fun (v_16 : Int32) (I_14 : MI) (J_15 : MJ) => ((v_13 = v_16 → f_X1_obstacle b v_10 x2_2 I_14 J_15 (fun (v_21 : Int32) (I_19 : MI) (J_20 : MJ) => ((v_21 = (0 : Int32) → K43 I_19 J_20) ∧ (¬ v_21 = (0 : Int32) → ∀ x3_23 : Int32, x3_23 = x3_3 + (1 : Int32) → rec2 x3_23 I_19 J_20)))) ∧ (¬ v_13 = v_16 → ∀ x3_18 : Int32, x3_18 = x3_3 + (1 : Int32) → rec2 x3_18 I_14 J_15))))))))
def f_X1_canFill_L2 (b : Nat) (x1_1 : Int32) (x2_2 : Int32) (K51 : MI → MJ → Prop) (K43 : MI → MJ → Prop) : Nat → Int32 → MI → MJ → Prop
  | 0, _, _, _ => False
  | n + 1, x3_3, I_4, J_5 => f_X1_canFill_B2 b x1_1 x2_2 K51 K43 (f_X1_canFill_L2 b x1_1 x2_2 K51 K43 n) x3_3 I_4 J_5
def f_X1_canFill (b : Nat) (x1 : Int32) (x2 : Int32) (I : MI) (J : MJ) (Q : Int32 → MI → MJ → Prop) : Prop :=
  ∃ n : Nat, f_X1_canFill_L2 b x1 x2 (fun (I_24 : MI) (J_25 : MJ) => Q (0 : Int32) I_24 J_25) (fun (I_26 : MI) (J_27 : MJ) => Q (1 : Int32) I_26 J_27) n (0 : Int32) I J
set_option maxRecDepth 100000 in
set_option maxHeartbeats 4000000 in
theorem c_X1_canFill {l : Launch} {E : EV} {ps : List (Nat × Nat)} {b : Nat} (hB : b < 11) (hM : ∀ r, r < 16 → (b, r) ∈ ps) {x1 : Int32} {x2 : Int32} {I : MI} {J : MJ} {Q : Int32 → MI → MJ → Prop} (hf : f_X1_canFill b x1 x2 I J Q) : KI l yX1_canFill wsX1_canFill rmX1_canFill E ps [.ref (eA E b 0), .int x1, .int x2] I J Q := by
  refine K_ofI (cc := cX1_canFill) (maxL := 6) (ty := .boolean) (by decide +kernel) rfl (Nat.le_of_ble_eq_true rfl) (fun p e s m args below meth c Qm hret S hK hX => ?_)
  have hA : ∀ q, s.heap.size ≤ q → AA E ps s.heap.size q := fun _ h => Or.inr h
  have k1 := S.2.2.2.2 (.fieldLink RX1 38 "RhymeRoofs$Game" "handSize" "[I") (by decide +kernel)
  have iX1 : ∀ w ∈ wsX10, w ∈ wsX1_canFill := fun _ h => List.mem_cons_of_mem _ (List.mem_append_left _ (List.mem_append_right _ h))
  intro H locs ls hP hD hS hl
  unfold f_X1_canFill at hf
  refine lv_iconst (v := 0) S.1 S.2.1 dX1_canFill_0 rfl ?_
  refine lv_istore_n (lv' := [(3, .int (0 : Int32)), (0, .ref (eA E b 0)), (1, .int x1), (2, .int x2)]) S.1 S.2.1 dX1_canFill_1 rfl hl (by decide) rfl (fun ls hl => ?_)
  obtain ⟨n_28, hf⟩ := hf
  have L2 : ∀ (x1_1 : Int32), ∀ (x2_2 : Int32), ∀ (K51 : MI → MJ → Prop), ∀ (K43 : MI → MJ → Prop), (∀ (I_24 : MI) (J_25 : MJ), K51 I_24 J_25 → Wj p l e (rmX1_canFill) s m args below meth c Qm E ps 6 I_24 J_25 51 [] []) → (∀ (I_26 : MI) (J_27 : MJ), K43 I_26 J_27 → Wj p l e (rmX1_canFill) s m args below meth c Qm E ps 6 I_26 J_27 43 [] []) → ∀ (n : Nat) (x3_3 : Int32) (I_4 : MI) (J_5 : MJ), f_X1_canFill_L2 b x1_1 x2_2 K51 K43 n x3_3 I_4 J_5 → Wj p l e (rmX1_canFill) s m args below meth c Qm E ps 6 I_4 J_5 2 [(0, .ref (eA E b 0)), (1, .int x1_1), (2, .int x2_2), (3, .int x3_3)] [] := by
    intro x1_1 x2_2 K51 K43 kx51 kx43 n
    induction n with
    | zero => intro x3_3 I_4 J_5 hf; exact hf.elim
    | succ n ih2 =>
      intro x3_3 I_4 J_5 hf
      have hf : f_X1_canFill_B2 b x1_1 x2_2 K51 K43 (f_X1_canFill_L2 b x1_1 x2_2 K51 K43 n) x3_3 I_4 J_5 := hf
      intro H locs ls hP hD hS hl
      unfold f_X1_canFill_B2 at hf
      refine lv_iload_n S.1 S.2.1 dX1_canFill_2 rfl (lv_at hl 3 rfl) ?_
      refine lv_aload_n S.1 S.2.1 dX1_canFill_3 rfl (lv_at hl 0 rfl) ?_
      refine gfX1_7 S iX1 hK hP hB (hM 0 (by decide)) k1 dX1_canFill_4 ?_
      refine lv_iload_n S.1 S.2.1 dX1_canFill_7 rfl (lv_at hl 1 rfl) ?_
      obtain ⟨h_6, hf⟩ := hf
      refine R_iald S.1 S.2.1 hK hP (hM 13 (by decide)) (IAg13 E hB) h_6 dX1_canFill_8 ?_
      refine lv_icmp_ge (tgt := 51) S.1 S.2.1 dX1_canFill_9 (by decide) (fun h_7 => ?_) (fun h_7 => ?_)
      · have hf := hf.1 h_7
        exact kx51 _ _ hf _ _ _ hP hD hS (lv_sub hl [] rfl)
      · have hf := hf.2 h_7
        refine lv_aload_n S.1 S.2.1 dX1_canFill_12 rfl (lv_at hl 0 rfl) ?_
        refine lv_iload_n S.1 S.2.1 dX1_canFill_13 rfl (lv_at hl 1 rfl) ?_
        refine lv_iload_n S.1 S.2.1 dX1_canFill_14 rfl (lv_at hl 3 rfl) ?_
        refine R_cVl (As := [.int x1_1, .int x3_3]) (rest := []) S (c_X1_wordOf (hB := hB) (hM := hM)  hf) gX1_canFill_X1_wordOf rfl yk_X1_wordOf ⟨⟨Nat.le_of_ble_eq_true rfl, Nat.le_of_ble_eq_true rfl⟩, rfl, rfl⟩ hK hP hD hS hX hA (hM 0 (by decide)) (cF_g E hB _ _ 0) rfl rfl hl.1 rfl (Nat.le_of_ble_eq_true rfl) ⟨Nat.zero_le _, Nat.zero_le _⟩ dX1_canFill_15 (fun v_10 I_8 J_9 H locs hf hP hD hS => ?_)
        refine lv_lstore (lv' := [(4, .long v_10), (0, .ref (eA E b 0)), (1, .int x1_1), (2, .int x2_2), (3, .int x3_3)]) S.1 S.2.1 dX1_canFill_18 hl (by decide) rfl (fun ls hl => ?_)
        refine lv_lload S.1 S.2.1 dX1_canFill_20 (lv_at hl 0 rfl) ?_
        refine R_cSi (As := [.long v_10]) (rest := []) S (c_X6_length   hf) gX1_canFill_X6_length rfl yk_X6_length ⟨⟨Nat.le_of_ble_eq_true rfl, Nat.le_of_ble_eq_true rfl⟩, rfl, rfl⟩ hK hP hD hS hX hA rfl hl.1 rfl (Nat.le_of_ble_eq_true rfl) ⟨Nat.zero_le _, Nat.zero_le _⟩ dX1_canFill_22 (fun v_13 I_11 J_12 H locs hf hP hD hS => ?_)
        refine lv_aload_n S.1 S.2.1 dX1_canFill_25 rfl (lv_at hl 1 rfl) ?_
        refine lv_iload_n S.1 S.2.1 dX1_canFill_26 rfl (lv_at hl 3 rfl) ?_
        refine R_cVi (As := [.int x2_2]) (rest := [.int v_13]) S (c_X1_freeTiles (hB := hB) (hM := hM)  hf) gX1_canFill_X1_freeTiles rfl yk_X1_freeTiles ⟨⟨Nat.le_of_ble_eq_true rfl, Nat.le_of_ble_eq_true rfl⟩, rfl, rfl⟩ hK hP hD hS hX hA (hM 0 (by decide)) (cF_g E hB _ _ 0) rfl rfl hl.1 rfl (Nat.le_of_ble_eq_true rfl) ⟨Nat.zero_le _, Nat.zero_le _⟩ dX1_canFill_27 (fun v_16 I_14 J_15 H locs hf hP hD hS => ?_)
        refine lv_icmp_ne (tgt := 45) S.1 S.2.1 dX1_canFill_30 (by decide) (fun h_17 => ?_) (fun h_17 => ?_)
        · have hf := hf.2 h_17
          refine nm_o hf (fun x3_18 ex3_18 hf => ?_)
          refine lv_iinc (v := x3_18) (lv' := [(3, .int x3_18), (4, .long v_10), (0, .ref (eA E b 0)), (1, .int x1_1), (2, .int x2_2)]) S.1 S.2.1 dX1_canFill_45 hl (k := 4) rfl (by rw [ex3_18]; rfl) (by decide) rfl (fun ls hl => ?_)
          refine lv_goto (tgt := 2) S.1 S.2.1 dX1_canFill_48 (by decide) ?_
          exact ih2 _ _ _ hf _ _ _ hP hD hS (lv_sub hl [2, 3, 4, 0] rfl)
        · have hf := hf.1 h_17
          refine lv_aload_n S.1 S.2.1 dX1_canFill_33 rfl (lv_at hl 1 rfl) ?_
          refine lv_lload S.1 S.2.1 dX1_canFill_34 (lv_at hl 0 rfl) ?_
          refine lv_iload_n S.1 S.2.1 dX1_canFill_36 rfl (lv_at hl 3 rfl) ?_
          refine R_cVi (As := [.long v_10, .int x2_2]) (rest := []) S (c_X1_obstacle (hB := hB) (hM := hM)  hf) gX1_canFill_X1_obstacle rfl yk_X1_obstacle ⟨⟨Nat.le_of_ble_eq_true rfl, Nat.le_of_ble_eq_true rfl⟩, rfl, rfl⟩ hK hP hD hS hX hA (hM 0 (by decide)) (cF_g E hB _ _ 0) rfl rfl hl.1 rfl (Nat.le_of_ble_eq_true rfl) ⟨Nat.zero_le _, Nat.zero_le _⟩ dX1_canFill_37 (fun v_21 I_19 J_20 H locs hf hP hD hS => ?_)
          refine lv_if_ne (tgt := 45) S.1 S.2.1 dX1_canFill_40 (by decide) (fun h_22 => ?_) (fun h_22 => ?_)
          · have hf := hf.2 h_22
            refine nm_o hf (fun x3_23 ex3_23 hf => ?_)
            refine lv_iinc (v := x3_23) (lv' := [(3, .int x3_23), (4, .long v_10), (0, .ref (eA E b 0)), (1, .int x1_1), (2, .int x2_2)]) S.1 S.2.1 dX1_canFill_45 hl (k := 4) rfl (by rw [ex3_23]; rfl) (by decide) rfl (fun ls hl => ?_)
            refine lv_goto (tgt := 2) S.1 S.2.1 dX1_canFill_48 (by decide) ?_
            exact ih2 _ _ _ hf _ _ _ hP hD hS (lv_sub hl [2, 3, 4, 0] rfl)
          · have hf := hf.1 h_22
            exact kx43 _ _ hf _ _ _ hP hD hS (lv_sub hl [] rfl)
  refine L2 _ _ _ _ (fun I_24 J_25 hf H locs ls hP hD hS hl => ?_) (fun I_26 J_27 hf H locs ls hP hD hS hl => ?_)  n_28 _ _ _ hf _ _ _ hP hD hS (lv_sub hl [1, 2, 3, 0] rfl)
  · refine lv_iconst (v := 0) S.1 S.2.1 dX1_canFill_51 rfl ?_
    exact hret hf rfl hP hD hS dX1_canFill_52
  · refine lv_iconst (v := 1) S.1 S.2.1 dX1_canFill_43 rfl ?_
    exact hret hf rfl hP hD hS dX1_canFill_44
abbrev rmX1_pointsFor : Room := { frames := 1, cells := 0, slots := 0, locals := 29 }
theorem yk_X1_pointsFor : yOk yX1_pointsFor RX1 2 := by unfold yOk; decide +kernel
def f_X1_pointsFor (b : Nat) (x1 : Int64) (x3 : Int32) (I : MI) (J : MJ) (Q : Int32 → MI → MJ → Prop) : Prop :=
  f_X6_length x1 I J (fun (v_3 : Int32) (I_1 : MI) (J_2 : MJ) => (vp_in x3 6 ∧ f_X4_rhymeOf b x1 (J_2 b 10 x3.toNatClampNeg) I_1 J_2 (fun (v_7 : Int32) (I_5 : MI) (J_6 : MJ) => ∀ x5_8 : Int32, x5_8 = (v_3 + ((I_1 b 1 6) * v_7)) → f_X1_freeTiles b x3 I_5 J_6 (fun (v_11 : Int32) (I_9 : MI) (J_10 : MJ) => ((v_3 = v_11 → (vp_in x3 6 ∧ ∀ x5_14 : Int32, x5_14 = (x5_8 + ((I_9 b 1 7) * ((I_9 b 9 x3.toNatClampNeg) + (1 : Int32)))) → Q x5_14 I_9 J_10)) ∧ (¬ v_3 = v_11 → Q x5_8 I_9 J_10))))))
set_option maxRecDepth 100000 in
set_option maxHeartbeats 4000000 in
theorem c_X1_pointsFor {l : Launch} {E : EV} {ps : List (Nat × Nat)} {b : Nat} (hB : b < 11) (hM : ∀ r, r < 16 → (b, r) ∈ ps) {x1 : Int64} {x3 : Int32} {I : MI} {J : MJ} {Q : Int32 → MI → MJ → Prop} (hf : f_X1_pointsFor b x1 x3 I J Q) : KI l yX1_pointsFor wsX1_pointsFor rmX1_pointsFor E ps [.ref (eA E b 0), .long x1, .int x3] I J Q := by
  refine K_ofI (cc := cX1_pointsFor) (maxL := 6) (ty := .int) (by decide +kernel) rfl (Nat.le_of_ble_eq_true rfl) (fun p e s m args below meth c Qm hret S hK hX => ?_)
  have hA : ∀ q, s.heap.size ≤ q → AA E ps s.heap.size q := fun _ h => Or.inr h
  have k1 := S.2.2.2.2 (.fieldLink RX1 12 "RhymeRoofs$Game" "rules" "LRhymeRoofs$Rules;") (by decide +kernel)
  have iX1 : ∀ w ∈ wsX10, w ∈ wsX1_pointsFor := fun _ h => List.mem_cons_of_mem _ (List.mem_append_left _ (List.mem_append_right _ h))
  have k2 := S.2.2.2.2 (.fieldLink RX1 92 "RhymeRoofs$Rules" "bonus" "I") (by decide +kernel)
  have iX4 : ∀ w ∈ wsX40, w ∈ wsX1_pointsFor := fun _ h => List.mem_cons_of_mem _ (List.mem_append_right _ h)
  have k3 := S.2.2.2.2 (.fieldLink RX1 28 "RhymeRoofs$Game" "lastOn" "[J") (by decide +kernel)
  have k4 := S.2.2.2.2 (.fieldLink RX1 95 "RhymeRoofs$Rules" "crown" "I") (by decide +kernel)
  have k5 := S.2.2.2.2 (.fieldLink RX1 25 "RhymeRoofs$Game" "wordsOn" "[I") (by decide +kernel)
  intro H locs ls hP hD hS hl
  unfold f_X1_pointsFor at hf
  refine lv_lload_n S.1 S.2.1 dX1_pointsFor_0 rfl (lv_at hl 1 rfl) ?_
  refine R_cSi (As := [.long x1]) (rest := []) S (c_X6_length   hf) gX1_pointsFor_X6_length rfl yk_X6_length ⟨⟨Nat.le_of_ble_eq_true rfl, Nat.le_of_ble_eq_true rfl⟩, rfl, rfl⟩ hK hP hD hS hX hA rfl hl.1 rfl (Nat.le_of_ble_eq_true rfl) ⟨Nat.zero_le _, Nat.zero_le _⟩ dX1_pointsFor_1 (fun v_3 I_1 J_2 H locs hf hP hD hS => ?_)
  refine lv_istore (lv' := [(4, .int v_3), (0, .ref (eA E b 0)), (1, .long x1), (3, .int x3)]) S.1 S.2.1 dX1_pointsFor_4 hl (by decide) rfl (fun ls hl => ?_)
  refine lv_iload S.1 S.2.1 dX1_pointsFor_6 (lv_at hl 0 rfl) ?_
  refine lv_aload_n S.1 S.2.1 dX1_pointsFor_8 rfl (lv_at hl 1 rfl) ?_
  refine gfX1_0 S iX1 hK hP hB (hM 0 (by decide)) k1 dX1_pointsFor_9 ?_
  refine gfX4_6 S iX4 hK hP hB (hM 1 (by decide)) k2 dX1_pointsFor_12 ?_
  refine lv_aload_n S.1 S.2.1 dX1_pointsFor_15 rfl (lv_at hl 1 rfl) ?_
  refine gfX1_0 S iX1 hK hP hB (hM 0 (by decide)) k1 dX1_pointsFor_16 ?_
  refine lv_lload_n S.1 S.2.1 dX1_pointsFor_19 rfl (lv_at hl 2 rfl) ?_
  refine lv_aload_n S.1 S.2.1 dX1_pointsFor_20 rfl (lv_at hl 1 rfl) ?_
  refine gfX1_4 S iX1 hK hP hB (hM 0 (by decide)) k3 dX1_pointsFor_21 ?_
  refine lv_iload_n S.1 S.2.1 dX1_pointsFor_24 rfl (lv_at hl 3 rfl) ?_
  obtain ⟨h_4, hf⟩ := hf
  refine R_lald S.1 S.2.1 hK hP (hM 10 (by decide)) (LAg10 E hB) h_4 dX1_pointsFor_25 ?_
  refine R_cVi (As := [.long x1, .long (J_2 b 10 x3.toNatClampNeg)]) (rest := [.int (I_1 b 1 6), .int v_3]) S (c_X4_rhymeOf (hB := hB) (hM := hM)  hf) gX1_pointsFor_X4_rhymeOf rfl yk_X4_rhymeOf ⟨⟨Nat.le_of_ble_eq_true rfl, Nat.le_of_ble_eq_true rfl⟩, rfl, rfl⟩ hK hP hD hS hX hA (hM 1 (by decide)) (cF_g E hB _ _ 1) rfl rfl hl.1 rfl (Nat.le_of_ble_eq_true rfl) ⟨Nat.zero_le _, Nat.zero_le _⟩ dX1_pointsFor_26 (fun v_7 I_5 J_6 H locs hf hP hD hS => ?_)
  refine lv_imul S.1 S.2.1 dX1_pointsFor_29 ?_
  refine lv_iadd S.1 S.2.1 dX1_pointsFor_30 ?_
  refine lv_topi (fun x5_8 ex5_8 => ?_)
  have hf := hf x5_8 ex5_8
  refine lv_istore (lv' := [(5, .int x5_8), (4, .int v_3), (0, .ref (eA E b 0)), (1, .long x1), (3, .int x3)]) S.1 S.2.1 dX1_pointsFor_31 hl (by decide) rfl (fun ls hl => ?_)
  refine lv_iload S.1 S.2.1 dX1_pointsFor_33 (lv_at hl 1 rfl) ?_
  refine lv_aload_n S.1 S.2.1 dX1_pointsFor_35 rfl (lv_at hl 2 rfl) ?_
  refine lv_iload_n S.1 S.2.1 dX1_pointsFor_36 rfl (lv_at hl 4 rfl) ?_
  refine R_cVi (As := [.int x3]) (rest := [.int v_3]) S (c_X1_freeTiles (hB := hB) (hM := hM)  hf) gX1_pointsFor_X1_freeTiles rfl yk_X1_freeTiles ⟨⟨Nat.le_of_ble_eq_true rfl, Nat.le_of_ble_eq_true rfl⟩, rfl, rfl⟩ hK hP hD hS hX hA (hM 0 (by decide)) (cF_g E hB _ _ 0) rfl rfl hl.1 rfl (Nat.le_of_ble_eq_true rfl) ⟨Nat.zero_le _, Nat.zero_le _⟩ dX1_pointsFor_37 (fun v_11 I_9 J_10 H locs hf hP hD hS => ?_)
  refine lv_icmp_ne (tgt := 64) S.1 S.2.1 dX1_pointsFor_40 (by decide) (fun h_12 => ?_) (fun h_12 => ?_)
  · have hf := hf.2 h_12
    refine lv_iload S.1 S.2.1 dX1_pointsFor_64 (lv_at hl 0 rfl) ?_
    exact hret hf rfl hP hD hS dX1_pointsFor_66
  · have hf := hf.1 h_12
    refine lv_iload S.1 S.2.1 dX1_pointsFor_43 (lv_at hl 0 rfl) ?_
    refine lv_aload_n S.1 S.2.1 dX1_pointsFor_45 rfl (lv_at hl 2 rfl) ?_
    refine gfX1_0 S iX1 hK hP hB (hM 0 (by decide)) k1 dX1_pointsFor_46 ?_
    refine gfX4_7 S iX4 hK hP hB (hM 1 (by decide)) k4 dX1_pointsFor_49 ?_
    refine lv_aload_n S.1 S.2.1 dX1_pointsFor_52 rfl (lv_at hl 2 rfl) ?_
    refine gfX1_3 S iX1 hK hP hB (hM 0 (by decide)) k5 dX1_pointsFor_53 ?_
    refine lv_iload_n S.1 S.2.1 dX1_pointsFor_56 rfl (lv_at hl 4 rfl) ?_
    obtain ⟨h_13, hf⟩ := hf
    refine R_iald S.1 S.2.1 hK hP (hM 9 (by decide)) (IAg9 E hB) h_13 dX1_pointsFor_57 ?_
    refine lv_iconst (v := 1) S.1 S.2.1 dX1_pointsFor_58 rfl ?_
    refine lv_iadd S.1 S.2.1 dX1_pointsFor_59 ?_
    refine lv_imul S.1 S.2.1 dX1_pointsFor_60 ?_
    refine lv_iadd S.1 S.2.1 dX1_pointsFor_61 ?_
    refine lv_topi (fun x5_14 ex5_14 => ?_)
    have hf := hf x5_14 ex5_14
    refine lv_istore (lv' := [(5, .int x5_14), (4, .int v_3), (0, .ref (eA E b 0)), (1, .long x1), (3, .int x3)]) S.1 S.2.1 dX1_pointsFor_62 hl (by decide) rfl (fun ls hl => ?_)
    refine lv_iload S.1 S.2.1 dX1_pointsFor_64 (lv_at hl 0 rfl) ?_
    exact hret hf rfl hP hD hS dX1_pointsFor_66
abbrev rmX1_leader : Room := { frames := 0, cells := 0, slots := 0, locals := 0 }
theorem yk_X1_leader : yOk yX1_leader RX1 0 := by unfold yOk; decide +kernel
def f_X1_leader_B4 (b : Nat) (K38 : Int32 → MI → MJ → Prop) (rec4 : Int32 → Int32 → MI → MJ → Prop) (x1_1 : Int32) (x2_2 : Int32) (I_3 : MI) (J_4 : MJ) : Prop :=
  (((I_3 b 1 4) ≤ x2_2 → K38 x1_1 I_3 J_4) ∧ (¬ (I_3 b 1 4) ≤ x2_2 → (vp_in x2_2 4 ∧ (vp_in x1_1 4 ∧ (((I_3 b 14 x2_2.toNatClampNeg) ≤ (I_3 b 14 x1_1.toNatClampNeg) → ∀ x2_9 : Int32, x2_9 = x2_2 + (1 : Int32) → rec4 x1_1 x2_9 I_3 J_4) ∧ (¬ (I_3 b 14 x2_2.toNatClampNeg) ≤ (I_3 b 14 x1_1.toNatClampNeg) → ∀ x2_10 : Int32, x2_10 = x2_2 + (1 : Int32) → rec4 x2_2 x2_10 I_3 J_4))))))
def f_X1_leader_L4 (b : Nat) (K38 : Int32 → MI → MJ → Prop) : Nat → Int32 → Int32 → MI → MJ → Prop
  | 0, _, _, _, _ => False
  | n + 1, x1_1, x2_2, I_3, J_4 => f_X1_leader_B4 b K38 (f_X1_leader_L4 b K38 n) x1_1 x2_2 I_3 J_4
def f_X1_leader (b : Nat) (I : MI) (J : MJ) (Q : Int32 → MI → MJ → Prop) : Prop :=
  ∃ n : Nat, f_X1_leader_L4 b (fun (x1_11 : Int32) (I_12 : MI) (J_13 : MJ) => Q x1_11 I_12 J_13) n (0 : Int32) (1 : Int32) I J
set_option maxRecDepth 100000 in
set_option maxHeartbeats 4000000 in
theorem c_X1_leader {l : Launch} {E : EV} {ps : List (Nat × Nat)} {b : Nat} (hB : b < 11) (hM : ∀ r, r < 16 → (b, r) ∈ ps) {I : MI} {J : MJ} {Q : Int32 → MI → MJ → Prop} (hf : f_X1_leader b I J Q) : KI l yX1_leader wsX1_leader rmX1_leader E ps [.ref (eA E b 0)] I J Q := by
  refine K_ofI (cc := cX1_leader) (maxL := 3) (ty := .int) (by decide +kernel) rfl (Nat.le_of_ble_eq_true rfl) (fun p e s m args below meth c Qm hret S hK hX => ?_)
  have hA : ∀ q, s.heap.size ≤ q → AA E ps s.heap.size q := fun _ h => Or.inr h
  have k1 := S.2.2.2.2 (.fieldLink RX1 12 "RhymeRoofs$Game" "rules" "LRhymeRoofs$Rules;") (by decide +kernel)
  have iX1 : ∀ w ∈ wsX10, w ∈ wsX1_leader := fun _ h => List.mem_cons_of_mem _ (List.mem_append_left _ (List.mem_append_right _ h))
  have k2 := S.2.2.2.2 (.fieldLink RX1 86 "RhymeRoofs$Rules" "players" "I") (by decide +kernel)
  have iX4 : ∀ w ∈ wsX40, w ∈ wsX1_leader := fun _ h => List.mem_cons_of_mem _ (List.mem_append_right _ h)
  have k3 := S.2.2.2.2 (.fieldLink RX1 41 "RhymeRoofs$Game" "points" "[I") (by decide +kernel)
  intro H locs ls hP hD hS hl
  unfold f_X1_leader at hf
  refine lv_iconst (v := 0) S.1 S.2.1 dX1_leader_0 rfl ?_
  refine lv_istore_n (lv' := [(1, .int (0 : Int32)), (0, .ref (eA E b 0))]) S.1 S.2.1 dX1_leader_1 rfl hl (by decide) rfl (fun ls hl => ?_)
  refine lv_iconst (v := 1) S.1 S.2.1 dX1_leader_2 rfl ?_
  refine lv_istore_n (lv' := [(2, .int (1 : Int32)), (1, .int (0 : Int32)), (0, .ref (eA E b 0))]) S.1 S.2.1 dX1_leader_3 rfl hl (by decide) rfl (fun ls hl => ?_)
  obtain ⟨n_14, hf⟩ := hf
  have L4 : ∀ (K38 : Int32 → MI → MJ → Prop), (∀ (x1_11 : Int32) (I_12 : MI) (J_13 : MJ), K38 x1_11 I_12 J_13 → Wj p l e (rmX1_leader) s m args below meth c Qm E ps 3 I_12 J_13 38 [(1, .int x1_11)] []) → ∀ (n : Nat) (x1_1 : Int32) (x2_2 : Int32) (I_3 : MI) (J_4 : MJ), f_X1_leader_L4 b K38 n x1_1 x2_2 I_3 J_4 → Wj p l e (rmX1_leader) s m args below meth c Qm E ps 3 I_3 J_4 4 [(0, .ref (eA E b 0)), (1, .int x1_1), (2, .int x2_2)] [] := by
    intro K38 kx38 n
    induction n with
    | zero => intro x1_1 x2_2 I_3 J_4 hf; exact hf.elim
    | succ n ih4 =>
      intro x1_1 x2_2 I_3 J_4 hf
      have hf : f_X1_leader_B4 b K38 (f_X1_leader_L4 b K38 n) x1_1 x2_2 I_3 J_4 := hf
      intro H locs ls hP hD hS hl
      unfold f_X1_leader_B4 at hf
      refine lv_iload_n S.1 S.2.1 dX1_leader_4 rfl (lv_at hl 2 rfl) ?_
      refine lv_aload_n S.1 S.2.1 dX1_leader_5 rfl (lv_at hl 0 rfl) ?_
      refine gfX1_0 S iX1 hK hP hB (hM 0 (by decide)) k1 dX1_leader_6 ?_
      refine gfX4_4 S iX4 hK hP hB (hM 1 (by decide)) k2 dX1_leader_9 ?_
      refine lv_icmp_ge (tgt := 38) S.1 S.2.1 dX1_leader_12 (by decide) (fun h_5 => ?_) (fun h_5 => ?_)
      · have hf := hf.1 h_5
        exact kx38 _ _ _ hf _ _ _ hP hD hS (lv_sub hl [1] rfl)
      · have hf := hf.2 h_5
        refine lv_aload_n S.1 S.2.1 dX1_leader_15 rfl (lv_at hl 0 rfl) ?_
        refine gfX1_8 S iX1 hK hP hB (hM 0 (by decide)) k3 dX1_leader_16 ?_
        refine lv_iload_n S.1 S.2.1 dX1_leader_19 rfl (lv_at hl 2 rfl) ?_
        obtain ⟨h_6, hf⟩ := hf
        refine R_iald S.1 S.2.1 hK hP (hM 14 (by decide)) (IAg14 E hB) h_6 dX1_leader_20 ?_
        refine lv_aload_n S.1 S.2.1 dX1_leader_21 rfl (lv_at hl 0 rfl) ?_
        refine gfX1_8 S iX1 hK hP hB (hM 0 (by decide)) k3 dX1_leader_22 ?_
        refine lv_iload_n S.1 S.2.1 dX1_leader_25 rfl (lv_at hl 1 rfl) ?_
        obtain ⟨h_7, hf⟩ := hf
        refine R_iald S.1 S.2.1 hK hP (hM 14 (by decide)) (IAg14 E hB) h_7 dX1_leader_26 ?_
        refine lv_icmp_le (tgt := 32) S.1 S.2.1 dX1_leader_27 (by decide) (fun h_8 => ?_) (fun h_8 => ?_)
        · have hf := hf.1 h_8
          refine nm_o hf (fun x2_9 ex2_9 hf => ?_)
          refine lv_iinc (v := x2_9) (lv' := [(2, .int x2_9), (0, .ref (eA E b 0)), (1, .int x1_1)]) S.1 S.2.1 dX1_leader_32 hl (k := 2) rfl (by rw [ex2_9]; rfl) (by decide) rfl (fun ls hl => ?_)
          refine lv_goto (tgt := 4) S.1 S.2.1 dX1_leader_35 (by decide) ?_
          exact ih4 _ _ _ _ hf _ _ _ hP hD hS (lv_sub hl [1, 2, 0] rfl)
        · have hf := hf.2 h_8
          refine lv_iload_n S.1 S.2.1 dX1_leader_30 rfl (lv_at hl 2 rfl) ?_
          refine lv_istore_n (lv' := [(1, .int x2_2), (0, .ref (eA E b 0)), (2, .int x2_2)]) S.1 S.2.1 dX1_leader_31 rfl hl (by decide) rfl (fun ls hl => ?_)
          refine nm_o hf (fun x2_10 ex2_10 hf => ?_)
          refine lv_iinc (v := x2_10) (lv' := [(2, .int x2_10), (1, .int x2_2), (0, .ref (eA E b 0))]) S.1 S.2.1 dX1_leader_32 hl (k := 2) rfl (by rw [ex2_10]; rfl) (by decide) rfl (fun ls hl => ?_)
          refine lv_goto (tgt := 4) S.1 S.2.1 dX1_leader_35 (by decide) ?_
          exact ih4 _ _ _ _ hf _ _ _ hP hD hS (lv_sub hl [2, 1, 0] rfl)
  refine L4 _ (fun x1_11 I_12 J_13 hf H locs ls hP hD hS hl => ?_)  n_14 _ _ _ _ hf _ _ _ hP hD hS (lv_sub hl [2, 1, 0] rfl)
  refine lv_iload_n S.1 S.2.1 dX1_leader_38 rfl (lv_at hl 0 rfl) ?_
  exact hret hf rfl hP hD hS dX1_leader_39
