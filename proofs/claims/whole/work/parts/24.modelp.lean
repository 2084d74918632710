abbrev rmX8_goOn : Room := { frames := 9, cells := 0, slots := 0, locals := 208 }
theorem yk_X8_goOn : yOk yX8_goOn RX8 1 := by unfold yOk; decide +kernel
def f_X8_goOn_B2 (x1_1 : Int32) (K54 : Int32 → MI → MJ → Prop) (rec2 : Int32 → MI → MJ → Prop) (x2_2 : Int32) (I_3 : MI) (J_4 : MJ) : Prop :=
  ((x1_1 ≤ x2_2 → K54 x2_2 I_3 J_4) ∧ (¬ x1_1 ≤ x2_2 → (vp_in (6 : Int32) 1802 ∧ (((I_3 12 2 (6 : Int32).toNatClampNeg) = (0 : Int32) → f_X8_bestPlay I_3 J_4 (fun (v_10 : Int32) (I_8 : MI) (J_9 : MJ) => ((v_10 = (-1 : Int32) → f_X8_passNow I_8 J_9 (fun (I_18 : MI) (J_19 : MJ) => ∀ x2_20 : Int32, x2_20 = x2_2 + (1 : Int32) → rec2 x2_20 I_18 J_19)) ∧ (¬ v_10 = (-1 : Int32) → (¬ (10 : Int32) = 0 ∧ (¬ (10 : Int32) = 0 ∧ f_X8_layNow (v_10 / (10 : Int32)) (v_10 - v_10 / (10 : Int32) * (10 : Int32)) I_8 J_9 (fun (v_16 : Int32) (I_14 : MI) (J_15 : MJ) => ∀ x2_17 : Int32, x2_17 = x2_2 + (1 : Int32) → rec2 x2_17 I_14 J_15))))))) ∧ (¬ (I_3 12 2 (6 : Int32).toNatClampNeg) = (0 : Int32) → K54 x2_2 I_3 J_4)))))
def f_X8_goOn_L2 (x1_1 : Int32) (K54 : Int32 → MI → MJ → Prop) : Nat → Int32 → MI → MJ → Prop
  | 0, _, _, _ => False
  | n + 1, x2_2, I_3, J_4 => f_X8_goOn_B2 x1_1 K54 (f_X8_goOn_L2 x1_1 K54 n) x2_2 I_3 J_4
def f_X8_goOn (x1 : Int32) (I : MI) (J : MJ) (Q : Int32 → MI → MJ → Prop) : Prop :=
  ∃ n : Nat, f_X8_goOn_L2 x1 (fun (x2_21 : Int32) (I_22 : MI) (J_23 : MJ) => Q x2_21 I_22 J_23) n (0 : Int32) I J
set_option maxRecDepth 100000 in
set_option maxHeartbeats 4000000 in
theorem c_X8_goOn {l : Launch} {E : EV} {ps : List (Nat × Nat)} (h12 : ∀ r, r < 17 → (12, r) ∈ ps) {x1 : Int32} {I : MI} {J : MJ} {Q : Int32 → MI → MJ → Prop} (hf : f_X8_goOn x1 I J Q) : KI l yX8_goOn wsX8_goOn rmX8_goOn E ps [.ref (eA E 12 0), .int x1] I J Q := by
  refine K_ofI (cc := cX8_goOn) (maxL := 5) (ty := .int) (by decide +kernel) rfl (Nat.le_of_ble_eq_true rfl) (fun p e s m args below meth c Qm hret S hK hX => ?_)
  have hA : ∀ q, s.heap.size ≤ q → AA E ps s.heap.size q := fun _ h => Or.inr h
  have k1 := S.2.2.2.2 (.fieldLink RX8 17 "RhymeRoofsModel" "data" "[I") (by decide +kernel)
  have iX8 : ∀ w ∈ wsX80, w ∈ wsX8_goOn := fun _ h => List.mem_cons_of_mem _ (List.mem_append_right _ h)
  intro H locs ls hP hD hS hl
  unfold f_X8_goOn at hf
  refine lv_iconst (v := 0) S.1 S.2.1 dX8_goOn_0 rfl ?_
  refine lv_istore_n (lv' := [(2, .int (0 : Int32)), (0, .ref (eA E 12 0)), (1, .int x1)]) S.1 S.2.1 dX8_goOn_1 rfl hl (by decide) rfl (fun ls hl => ?_)
  obtain ⟨n_24, hf⟩ := hf
  have L2 : ∀ (x1_1 : Int32), ∀ (K54 : Int32 → MI → MJ → Prop), (∀ (x2_21 : Int32) (I_22 : MI) (J_23 : MJ), K54 x2_21 I_22 J_23 → Wj p l e (rmX8_goOn) s m args below meth c Qm E ps 5 I_22 J_23 54 [(2, .int x2_21)] []) → ∀ (n : Nat) (x2_2 : Int32) (I_3 : MI) (J_4 : MJ), f_X8_goOn_L2 x1_1 K54 n x2_2 I_3 J_4 → Wj p l e (rmX8_goOn) s m args below meth c Qm E ps 5 I_3 J_4 2 [(0, .ref (eA E 12 0)), (1, .int x1_1), (2, .int x2_2)] [] := by
    intro x1_1 K54 kx54 n
    induction n with
    | zero => intro x2_2 I_3 J_4 hf; exact hf.elim
    | succ n ih2 =>
      intro x2_2 I_3 J_4 hf
      have hf : f_X8_goOn_B2 x1_1 K54 (f_X8_goOn_L2 x1_1 K54 n) x2_2 I_3 J_4 := hf
      intro H locs ls hP hD hS hl
      unfold f_X8_goOn_B2 at hf
      refine lv_iload_n S.1 S.2.1 dX8_goOn_2 rfl (lv_at hl 2 rfl) ?_
      refine lv_iload_n S.1 S.2.1 dX8_goOn_3 rfl (lv_at hl 1 rfl) ?_
      refine lv_icmp_ge (tgt := 54) S.1 S.2.1 dX8_goOn_4 (by decide) (fun h_5 => ?_) (fun h_5 => ?_)
      · have hf := hf.1 h_5
        exact kx54 _ _ _ hf _ _ _ hP hD hS (lv_sub hl [2] rfl)
      · have hf := hf.2 h_5
        refine lv_aload_n S.1 S.2.1 dX8_goOn_7 rfl (lv_at hl 0 rfl) ?_
        refine gfX8_8 S iX8 hK hP (h12 0 (by decide)) k1 dX8_goOn_8 ?_
        refine lv_bipush (v := 6) S.1 S.2.1 dX8_goOn_11 rfl ?_
        obtain ⟨h_6, hf⟩ := hf
        refine R_iald S.1 S.2.1 hK hP (h12 2 (by decide)) (IAm2 E) h_6 dX8_goOn_13 ?_
        refine lv_if_ne (tgt := 54) S.1 S.2.1 dX8_goOn_14 (by decide) (fun h_7 => ?_) (fun h_7 => ?_)
        · have hf := hf.2 h_7
          exact kx54 _ _ _ hf _ _ _ hP hD hS (lv_sub hl [2] rfl)
        · have hf := hf.1 h_7
          refine lv_aload_n S.1 S.2.1 dX8_goOn_17 rfl (lv_at hl 0 rfl) ?_
          refine R_cVi (As := []) (rest := []) S (c_X8_bestPlay (h12 := h12)  hf) gX8_goOn_X8_bestPlay rfl yk_X8_bestPlay ⟨⟨Nat.le_of_ble_eq_true rfl, Nat.le_of_ble_eq_true rfl⟩, rfl, rfl⟩ hK hP hD hS hX hA (h12 0 (by decide)) (cF_m E _ _ 0) rfl rfl hl.1 rfl (Nat.le_of_ble_eq_true rfl) ⟨Nat.zero_le _, Nat.zero_le _⟩ dX8_goOn_18 (fun v_10 I_8 J_9 H locs hf hP hD hS => ?_)
          refine lv_istore_n (lv' := [(3, .int v_10), (0, .ref (eA E 12 0)), (1, .int x1_1), (2, .int x2_2)]) S.1 S.2.1 dX8_goOn_21 rfl hl (by decide) rfl (fun ls hl => ?_)
          refine lv_iload_n S.1 S.2.1 dX8_goOn_22 rfl (lv_at hl 0 rfl) ?_
          refine lv_iconst (v := (-1)) S.1 S.2.1 dX8_goOn_23 rfl ?_
          refine lv_icmp_ne (tgt := 34) S.1 S.2.1 dX8_goOn_24 (by decide) (fun h_11 => ?_) (fun h_11 => ?_)
          · have hf := hf.2 h_11
            refine lv_aload_n S.1 S.2.1 dX8_goOn_34 rfl (lv_at hl 1 rfl) ?_
            refine lv_iload_n S.1 S.2.1 dX8_goOn_35 rfl (lv_at hl 0 rfl) ?_
            refine lv_bipush (v := 10) S.1 S.2.1 dX8_goOn_36 rfl ?_
            obtain ⟨h_12, hf⟩ := hf
            refine lv_idiv S.1 S.2.1 dX8_goOn_38 h_12 ?_
            refine lv_iload_n S.1 S.2.1 dX8_goOn_39 rfl (lv_at hl 0 rfl) ?_
            refine lv_bipush (v := 10) S.1 S.2.1 dX8_goOn_40 rfl ?_
            obtain ⟨h_13, hf⟩ := hf
            refine lv_irem S.1 S.2.1 dX8_goOn_42 h_13 ?_
            refine R_cVi (As := [.int (v_10 / (10 : Int32)), .int (v_10 - v_10 / (10 : Int32) * (10 : Int32))]) (rest := []) S (c_X8_layNow (h12 := h12)  hf) gX8_goOn_X8_layNow rfl yk_X8_layNow ⟨⟨Nat.le_of_ble_eq_true rfl, Nat.le_of_ble_eq_true rfl⟩, rfl, rfl⟩ hK hP hD hS hX hA (h12 0 (by decide)) (cF_m E _ _ 0) rfl rfl hl.1 rfl (Nat.le_of_ble_eq_true rfl) ⟨Nat.zero_le _, Nat.zero_le _⟩ dX8_goOn_43 (fun v_16 I_14 J_15 H locs hf hP hD hS => ?_)
            refine lv_istore (lv' := [(4, .int v_16), (3, .int v_10), (0, .ref (eA E 12 0)), (1, .int x1_1), (2, .int x2_2)]) S.1 S.2.1 dX8_goOn_46 hl (by decide) rfl (fun ls hl => ?_)
            refine nm_o hf (fun x2_17 ex2_17 hf => ?_)
            refine lv_iinc (v := x2_17) (lv' := [(2, .int x2_17), (4, .int v_16), (3, .int v_10), (0, .ref (eA E 12 0)), (1, .int x1_1)]) S.1 S.2.1 dX8_goOn_48 hl (k := 4) rfl (by rw [ex2_17]; rfl) (by decide) rfl (fun ls hl => ?_)
            refine lv_goto (tgt := 2) S.1 S.2.1 dX8_goOn_51 (by decide) ?_
            exact ih2 _ _ _ hf _ _ _ hP hD hS (lv_sub hl [3, 4, 0] rfl)
          · have hf := hf.1 h_11
            refine lv_aload_n S.1 S.2.1 dX8_goOn_27 rfl (lv_at hl 1 rfl) ?_
            refine R_cVv (As := []) (rest := []) S (c_X8_passNow (h12 := h12)  hf) gX8_goOn_X8_passNow rfl yk_X8_passNow ⟨⟨Nat.le_of_ble_eq_true rfl, Nat.le_of_ble_eq_true rfl⟩, rfl, rfl⟩ hK hP hD hS hX hA (h12 0 (by decide)) (cF_m E _ _ 0) rfl rfl hl.1 rfl (Nat.le_of_ble_eq_true rfl) ⟨Nat.zero_le _, Nat.zero_le _⟩ dX8_goOn_28 (fun I_18 J_19 H locs hf hP hD hS => ?_)
            refine lv_goto (tgt := 48) S.1 S.2.1 dX8_goOn_31 (by decide) ?_
            refine nm_o hf (fun x2_20 ex2_20 hf => ?_)
            refine lv_iinc (v := x2_20) (lv' := [(2, .int x2_20), (3, .int v_10), (0, .ref (eA E 12 0)), (1, .int x1_1)]) S.1 S.2.1 dX8_goOn_48 hl (k := 3) rfl (by rw [ex2_20]; rfl) (by decide) rfl (fun ls hl => ?_)
            refine lv_goto (tgt := 2) S.1 S.2.1 dX8_goOn_51 (by decide) ?_
            exact ih2 _ _ _ hf _ _ _ hP hD hS (lv_sub hl [2, 3, 0] rfl)
  refine L2 _ _ (fun x2_21 I_22 J_23 hf H locs ls hP hD hS hl => ?_)  n_24 _ _ _ hf _ _ _ hP hD hS (lv_sub hl [1, 2, 0] rfl)
  refine lv_iload_n S.1 S.2.1 dX8_goOn_54 rfl (lv_at hl 0 rfl) ?_
  exact hret hf rfl hP hD hS dX8_goOn_55
abbrev rmX8_lettersOf : Room := { frames := 3, cells := 0, slots := 0, locals := 63 }
theorem yk_X8_lettersOf : yOk yX8_lettersOf RX8 2 := by unfold yOk; decide +kernel
def f_X8_lettersOf_B5 (x1_1 : Int32) (x2_2 : Int32) (K38 : Int32 → MI → MJ → Prop) (rec5 : Int32 → Int32 → MI → MJ → Prop) (x3_3 : Int32) (x4_4 : Int32) (I_5 : MI) (J_6 : MJ) : Prop :=
  (((8 : Int32) ≤ x4_4 → K38 x3_3 I_5 J_6) ∧ (¬ (8 : Int32) ≤ x4_4 → ((((x2_2 >>> (x4_4 &&& 31)) &&& (1 : Int32)) = (1 : Int32) → f_X8_lengthOf x1_1 x4_4 I_5 J_6 (fun (v_12 : Int32) (I_10 : MI) (J_11 : MJ) => ∀ x3_13 : Int32, x3_13 = (x3_3 + v_12) → ∀ x4_14 : Int32, x4_14 = x4_4 + (1 : Int32) → rec5 x3_13 x4_14 I_10 J_11)) ∧ (¬ ((x2_2 >>> (x4_4 &&& 31)) &&& (1 : Int32)) = (1 : Int32) → ∀ x4_9 : Int32, x4_9 = x4_4 + (1 : Int32) → rec5 x3_3 x4_9 I_5 J_6))))
def f_X8_lettersOf_L5 (x1_1 : Int32) (x2_2 : Int32) (K38 : Int32 → MI → MJ → Prop) : Nat → Int32 → Int32 → MI → MJ → Prop
  | 0, _, _, _, _ => False
  | n + 1, x3_3, x4_4, I_5, J_6 => f_X8_lettersOf_B5 x1_1 x2_2 K38 (f_X8_lettersOf_L5 x1_1 x2_2 K38 n) x3_3 x4_4 I_5 J_6
def f_X8_lettersOf (x1 : Int32) (x2 : Int32) (I : MI) (J : MJ) (Q : Int32 → MI → MJ → Prop) : Prop :=
  ∃ n : Nat, f_X8_lettersOf_L5 x1 x2 (fun (x3_15 : Int32) (I_16 : MI) (J_17 : MJ) => Q x3_15 I_16 J_17) n (0 : Int32) (0 : Int32) I J
set_option maxRecDepth 100000 in
set_option maxHeartbeats 4000000 in
theorem c_X8_lettersOf {l : Launch} {E : EV} {ps : List (Nat × Nat)} (h12 : ∀ r, r < 17 → (12, r) ∈ ps) {x1 : Int32} {x2 : Int32} {I : MI} {J : MJ} {Q : Int32 → MI → MJ → Prop} (hf : f_X8_lettersOf x1 x2 I J Q) : KI l yX8_lettersOf wsX8_lettersOf rmX8_lettersOf E ps [.ref (eA E 12 0), .int x1, .int x2] I J Q := by
  refine K_ofI (cc := cX8_lettersOf) (maxL := 5) (ty := .int) (by decide +kernel) rfl (Nat.le_of_ble_eq_true rfl) (fun p e s m args below meth c Qm hret S hK hX => ?_)
  have hA : ∀ q, s.heap.size ≤ q → AA E ps s.heap.size q := fun _ h => Or.inr h
  intro H locs ls hP hD hS hl
  unfold f_X8_lettersOf at hf
  refine lv_iconst (v := 0) S.1 S.2.1 dX8_lettersOf_0 rfl ?_
  refine lv_istore_n (lv' := [(3, .int (0 : Int32)), (0, .ref (eA E 12 0)), (1, .int x1), (2, .int x2)]) S.1 S.2.1 dX8_lettersOf_1 rfl hl (by decide) rfl (fun ls hl => ?_)
  refine lv_iconst (v := 0) S.1 S.2.1 dX8_lettersOf_2 rfl ?_
  refine lv_istore (lv' := [(4, .int (0 : Int32)), (3, .int (0 : Int32)), (0, .ref (eA E 12 0)), (1, .int x1), (2, .int x2)]) S.1 S.2.1 dX8_lettersOf_3 hl (by decide) rfl (fun ls hl => ?_)
  obtain ⟨n_18, hf⟩ := hf
  have L5 : ∀ (x1_1 : Int32), ∀ (x2_2 : Int32), ∀ (K38 : Int32 → MI → MJ → Prop), (∀ (x3_15 : Int32) (I_16 : MI) (J_17 : MJ), K38 x3_15 I_16 J_17 → Wj p l e (rmX8_lettersOf) s m args below meth c Qm E ps 5 I_16 J_17 38 [(3, .int x3_15)] []) → ∀ (n : Nat) (x3_3 : Int32) (x4_4 : Int32) (I_5 : MI) (J_6 : MJ), f_X8_lettersOf_L5 x1_1 x2_2 K38 n x3_3 x4_4 I_5 J_6 → Wj p l e (rmX8_lettersOf) s m args below meth c Qm E ps 5 I_5 J_6 5 [(0, .ref (eA E 12 0)), (1, .int x1_1), (2, .int x2_2), (3, .int x3_3), (4, .int x4_4)] [] := by
    intro x1_1 x2_2 K38 kx38 n
    induction n with
    | zero => intro x3_3 x4_4 I_5 J_6 hf; exact hf.elim
    | succ n ih5 =>
      intro x3_3 x4_4 I_5 J_6 hf
      have hf : f_X8_lettersOf_B5 x1_1 x2_2 K38 (f_X8_lettersOf_L5 x1_1 x2_2 K38 n) x3_3 x4_4 I_5 J_6 := hf
      intro H locs ls hP hD hS hl
      unfold f_X8_lettersOf_B5 at hf
      refine lv_iload S.1 S.2.1 dX8_lettersOf_5 (lv_at hl 4 rfl) ?_
      refine lv_bipush (v := 8) S.1 S.2.1 dX8_lettersOf_7 rfl ?_
      refine lv_icmp_ge (tgt := 38) S.1 S.2.1 dX8_lettersOf_9 (by decide) (fun h_7 => ?_) (fun h_7 => ?_)
      · have hf := hf.1 h_7
        exact kx38 _ _ _ hf _ _ _ hP hD hS (lv_sub hl [3] rfl)
      · have hf := hf.2 h_7
        refine lv_iload_n S.1 S.2.1 dX8_lettersOf_12 rfl (lv_at hl 2 rfl) ?_
        refine lv_iload S.1 S.2.1 dX8_lettersOf_13 (lv_at hl 4 rfl) ?_
        refine lv_ishr S.1 S.2.1 dX8_lettersOf_15 ?_
        refine lv_iconst (v := 1) S.1 S.2.1 dX8_lettersOf_16 rfl ?_
        refine lv_iand S.1 S.2.1 dX8_lettersOf_17 ?_
        refine lv_iconst (v := 1) S.1 S.2.1 dX8_lettersOf_18 rfl ?_
        refine lv_icmp_ne (tgt := 32) S.1 S.2.1 dX8_lettersOf_19 (by decide) (fun h_8 => ?_) (fun h_8 => ?_)
        · have hf := hf.2 h_8
          refine nm_o hf (fun x4_9 ex4_9 hf => ?_)
          refine lv_iinc (v := x4_9) (lv' := [(4, .int x4_9), (0, .ref (eA E 12 0)), (1, .int x1_1), (2, .int x2_2), (3, .int x3_3)]) S.1 S.2.1 dX8_lettersOf_32 hl (k := 4) rfl (by rw [ex4_9]; rfl) (by decide) rfl (fun ls hl => ?_)
          refine lv_goto (tgt := 5) S.1 S.2.1 dX8_lettersOf_35 (by decide) ?_
          exact ih5 _ _ _ _ hf _ _ _ hP hD hS (lv_sub hl [1, 2, 3, 4, 0] rfl)
        · have hf := hf.1 h_8
          refine lv_iload_n S.1 S.2.1 dX8_lettersOf_22 rfl (lv_at hl 3 rfl) ?_
          refine lv_aload_n S.1 S.2.1 dX8_lettersOf_23 rfl (lv_at hl 0 rfl) ?_
          refine lv_iload_n S.1 S.2.1 dX8_lettersOf_24 rfl (lv_at hl 1 rfl) ?_
          refine lv_iload S.1 S.2.1 dX8_lettersOf_25 (lv_at hl 4 rfl) ?_
          refine R_cVi (As := [.int x1_1, .int x4_4]) (rest := [.int x3_3]) S (c_X8_lengthOf (h12 := h12)  hf) gX8_lettersOf_X8_lengthOf rfl yk_X8_lengthOf ⟨⟨Nat.le_of_ble_eq_true rfl, Nat.le_of_ble_eq_true rfl⟩, rfl, rfl⟩ hK hP hD hS hX hA (h12 0 (by decide)) (cF_m E _ _ 0) rfl rfl hl.1 rfl (Nat.le_of_ble_eq_true rfl) ⟨Nat.zero_le _, Nat.zero_le _⟩ dX8_lettersOf_27 (fun v_12 I_10 J_11 H locs hf hP hD hS => ?_)
          refine lv_iadd S.1 S.2.1 dX8_lettersOf_30 ?_
          refine lv_topi (fun x3_13 ex3_13 => ?_)
          have hf := hf x3_13 ex3_13
          refine lv_istore_n (lv' := [(3, .int x3_13), (0, .ref (eA E 12 0)), (1, .int x1_1), (2, .int x2_2), (4, .int x4_4)]) S.1 S.2.1 dX8_lettersOf_31 rfl hl (by decide) rfl (fun ls hl => ?_)
          refine nm_o hf (fun x4_14 ex4_14 hf => ?_)
          refine lv_iinc (v := x4_14) (lv' := [(4, .int x4_14), (3, .int x3_13), (0, .ref (eA E 12 0)), (1, .int x1_1), (2, .int x2_2)]) S.1 S.2.1 dX8_lettersOf_32 hl (k := 4) rfl (by rw [ex4_14]; rfl) (by decide) rfl (fun ls hl => ?_)
          refine lv_goto (tgt := 5) S.1 S.2.1 dX8_lettersOf_35 (by decide) ?_
          exact ih5 _ _ _ _ hf _ _ _ hP hD hS (lv_sub hl [2, 3, 4, 1, 0] rfl)
  refine L5 _ _ _ (fun x3_15 I_16 J_17 hf H locs ls hP hD hS hl => ?_)  n_18 _ _ _ _ hf _ _ _ hP hD hS (lv_sub hl [2, 3, 4, 1, 0] rfl)
  refine lv_iload_n S.1 S.2.1 dX8_lettersOf_38 rfl (lv_at hl 0 rfl) ?_
  exact hret hf rfl hP hD hS dX8_lettersOf_39
abbrev rmX8_sizeOf : Room := { frames := 0, cells := 0, slots := 0, locals := 0 }
theorem yk_X8_sizeOf : yOk yX8_sizeOf RX8 1 := by unfold yOk; decide +kernel
def f_X8_sizeOf_B4 (x0_1 : Int32) (K24 : Int32 → MI → MJ → Prop) (rec4 : Int32 → Int32 → MI → MJ → Prop) (x1_2 : Int32) (x2_3 : Int32) (I_4 : MI) (J_5 : MJ) : Prop :=
  (((8 : Int32) ≤ x2_3 → K24 x1_2 I_4 J_5) ∧ (¬ (8 : Int32) ≤ x2_3 → ∀ x1_7 : Int32, x1_7 = (x1_2 + ((x0_1 >>> (x2_3 &&& 31)) &&& (1 : Int32))) → ∀ x2_8 : Int32, x2_8 = x2_3 + (1 : Int32) → rec4 x1_7 x2_8 I_4 J_5))
def f_X8_sizeOf_L4 (x0_1 : Int32) (K24 : Int32 → MI → MJ → Prop) : Nat → Int32 → Int32 → MI → MJ → Prop
  | 0, _, _, _, _ => False
  | n + 1, x1_2, x2_3, I_4, J_5 => f_X8_sizeOf_B4 x0_1 K24 (f_X8_sizeOf_L4 x0_1 K24 n) x1_2 x2_3 I_4 J_5
def f_X8_sizeOf (x0 : Int32) (I : MI) (J : MJ) (Q : Int32 → MI → MJ → Prop) : Prop :=
  ∃ n : Nat, f_X8_sizeOf_L4 x0 (fun (x1_9 : Int32) (I_10 : MI) (J_11 : MJ) => Q x1_9 I_10 J_11) n (0 : Int32) (0 : Int32) I J
set_option maxRecDepth 100000 in
set_option maxHeartbeats 4000000 in
theorem c_X8_sizeOf {l : Launch} {E : EV} {ps : List (Nat × Nat)}  {x0 : Int32} {I : MI} {J : MJ} {Q : Int32 → MI → MJ → Prop} (hf : f_X8_sizeOf x0 I J Q) : KI l yX8_sizeOf wsX8_sizeOf rmX8_sizeOf E ps [.int x0] I J Q := by
  refine K_ofI (cc := cX8_sizeOf) (maxL := 3) (ty := .int) (by decide +kernel) rfl (Nat.le_of_ble_eq_true rfl) (fun p e s m args below meth c Qm hret S hK hX => ?_)
  have hA : ∀ q, s.heap.size ≤ q → AA E ps s.heap.size q := fun _ h => Or.inr h
  intro H locs ls hP hD hS hl
  unfold f_X8_sizeOf at hf
  refine lv_iconst (v := 0) S.1 S.2.1 dX8_sizeOf_0 rfl ?_
  refine lv_istore_n (lv' := [(1, .int (0 : Int32)), (0, .int x0)]) S.1 S.2.1 dX8_sizeOf_1 rfl hl (by decide) rfl (fun ls hl => ?_)
  refine lv_iconst (v := 0) S.1 S.2.1 dX8_sizeOf_2 rfl ?_
  refine lv_istore_n (lv' := [(2, .int (0 : Int32)), (1, .int (0 : Int32)), (0, .int x0)]) S.1 S.2.1 dX8_sizeOf_3 rfl hl (by decide) rfl (fun ls hl => ?_)
  obtain ⟨n_12, hf⟩ := hf
  have L4 : ∀ (x0_1 : Int32), ∀ (K24 : Int32 → MI → MJ → Prop), (∀ (x1_9 : Int32) (I_10 : MI) (J_11 : MJ), K24 x1_9 I_10 J_11 → Wj p l e (rmX8_sizeOf) s m args below meth c Qm E ps 3 I_10 J_11 24 [(1, .int x1_9)] []) → ∀ (n : Nat) (x1_2 : Int32) (x2_3 : Int32) (I_4 : MI) (J_5 : MJ), f_X8_sizeOf_L4 x0_1 K24 n x1_2 x2_3 I_4 J_5 → Wj p l e (rmX8_sizeOf) s m args below meth c Qm E ps 3 I_4 J_5 4 [(0, .int x0_1), (1, .int x1_2), (2, .int x2_3)] [] := by
    intro x0_1 K24 kx24 n
    induction n with
    | zero => intro x1_2 x2_3 I_4 J_5 hf; exact hf.elim
    | succ n ih4 =>
      intro x1_2 x2_3 I_4 J_5 hf
      have hf : f_X8_sizeOf_B4 x0_1 K24 (f_X8_sizeOf_L4 x0_1 K24 n) x1_2 x2_3 I_4 J_5 := hf
      intro H locs ls hP hD hS hl
      unfold f_X8_sizeOf_B4 at hf
      refine lv_iload_n S.1 S.2.1 dX8_sizeOf_4 rfl (lv_at hl 2 rfl) ?_
      refine lv_bipush (v := 8) S.1 S.2.1 dX8_sizeOf_5 rfl ?_
      refine lv_icmp_ge (tgt := 24) S.1 S.2.1 dX8_sizeOf_7 (by decide) (fun h_6 => ?_) (fun h_6 => ?_)
      · have hf := hf.1 h_6
        exact kx24 _ _ _ hf _ _ _ hP hD hS (lv_sub hl [1] rfl)
      · have hf := hf.2 h_6
        refine lv_iload_n S.1 S.2.1 dX8_sizeOf_10 rfl (lv_at hl 1 rfl) ?_
        refine lv_iload_n S.1 S.2.1 dX8_sizeOf_11 rfl (lv_at hl 0 rfl) ?_
        refine lv_iload_n S.1 S.2.1 dX8_sizeOf_12 rfl (lv_at hl 2 rfl) ?_
        refine lv_ishr S.1 S.2.1 dX8_sizeOf_13 ?_
        refine lv_iconst (v := 1) S.1 S.2.1 dX8_sizeOf_14 rfl ?_
        refine lv_iand S.1 S.2.1 dX8_sizeOf_15 ?_
        refine lv_iadd S.1 S.2.1 dX8_sizeOf_16 ?_
        refine lv_topi (fun x1_7 ex1_7 => ?_)
        have hf := hf x1_7 ex1_7
        refine lv_istore_n (lv' := [(1, .int x1_7), (0, .int x0_1), (2, .int x2_3)]) S.1 S.2.1 dX8_sizeOf_17 rfl hl (by decide) rfl (fun ls hl => ?_)
        refine nm_o hf (fun x2_8 ex2_8 hf => ?_)
        refine lv_iinc (v := x2_8) (lv' := [(2, .int x2_8), (1, .int x1_7), (0, .int x0_1)]) S.1 S.2.1 dX8_sizeOf_18 hl (k := 2) rfl (by rw [ex2_8]; rfl) (by decide) rfl (fun ls hl => ?_)
        refine lv_goto (tgt := 4) S.1 S.2.1 dX8_sizeOf_21 (by decide) ?_
        exact ih4 _ _ _ _ hf _ _ _ hP hD hS (lv_sub hl [2, 1, 0] rfl)
  refine L4 _ _ (fun x1_9 I_10 J_11 hf H locs ls hP hD hS hl => ?_)  n_12 _ _ _ _ hf _ _ _ hP hD hS (lv_sub hl [2, 1, 0] rfl)
  refine lv_iload_n S.1 S.2.1 dX8_sizeOf_24 rfl (lv_at hl 0 rfl) ?_
  exact hret hf rfl hP hD hS dX8_sizeOf_25
abbrev rmX8_follows : Room := { frames := 3, cells := 0, slots := 0, locals := 63 }
theorem yk_X8_follows : yOk yX8_follows RX8 3 := by unfold yOk; decide +kernel
def f_X8_follows (x1 : Int32) (x2 : Int32) (x3 : Int32) (I : MI) (J : MJ) (Q : Int32 → MI → MJ → Prop) : Prop :=
  f_X8_wordAt x1 x2 I J (fun (v_3 : Int32) (I_1 : MI) (J_2 : MJ) => ∀ x4_4 : Int32, x4_4 = (v_3 + (1 : Int32)) → f_X8_wordAt x1 x3 I_1 J_2 (fun (v_7 : Int32) (I_5 : MI) (J_6 : MJ) => ∀ x5_8 : Int32, x5_8 = (v_7 + (1 : Int32)) → f_X8_lengthOf x1 x2 I_5 J_6 (fun (v_11 : Int32) (I_9 : MI) (J_10 : MJ) => f_X8_lengthOf x1 x3 I_9 J_10 (fun (v_14 : Int32) (I_12 : MI) (J_13 : MJ) => f_X8_areSame x4_4 v_11 x5_8 v_14 I_12 J_13 (fun (v_17 : Int32) (I_15 : MI) (J_16 : MJ) => ((v_17 = (0 : Int32) → f_X8_lengthOf x1 x2 I_15 J_16 (fun (v_21 : Int32) (I_19 : MI) (J_20 : MJ) => f_X8_lengthOf x1 x3 I_19 J_20 (fun (v_24 : Int32) (I_22 : MI) (J_23 : MJ) => f_X8_rhymeOf x4_4 v_21 x5_8 v_24 I_22 J_23 (fun (v_27 : Int32) (I_25 : MI) (J_26 : MJ) => (vp_in (2 : Int32) 1802 ∧ ((v_27 < (I_25 12 2 (2 : Int32).toNatClampNeg) → Q (0 : Int32) I_25 J_26) ∧ (¬ v_27 < (I_25 12 2 (2 : Int32).toNatClampNeg) → Q (1 : Int32) I_25 J_26))))))) ∧ (¬ v_17 = (0 : Int32) → Q (0 : Int32) I_15 J_16)))))))
set_option maxRecDepth 100000 in
set_option maxHeartbeats 4000000 in
theorem c_X8_follows {l : Launch} {E : EV} {ps : List (Nat × Nat)} (h12 : ∀ r, r < 17 → (12, r) ∈ ps) {x1 : Int32} {x2 : Int32} {x3 : Int32} {I : MI} {J : MJ} {Q : Int32 → MI → MJ → Prop} (hf : f_X8_follows x1 x2 x3 I J Q) : KI l yX8_follows wsX8_follows rmX8_follows E ps [.ref (eA E 12 0), .int x1, .int x2, .int x3] I J Q := by
  refine K_ofI (cc := cX8_follows) (maxL := 6) (ty := .boolean) (by decide +kernel) rfl (Nat.le_of_ble_eq_true rfl) (fun p e s m args below meth c Qm hret S hK hX => ?_)
  have hA : ∀ q, s.heap.size ≤ q → AA E ps s.heap.size q := fun _ h => Or.inr h
  have k1 := S.2.2.2.2 (.fieldLink RX8 17 "RhymeRoofsModel" "data" "[I") (by decide +kernel)
  have iX8 : ∀ w ∈ wsX80, w ∈ wsX8_follows := fun _ h => List.mem_cons_of_mem _ (List.mem_append_right _ h)
  intro H locs ls hP hD hS hl
  unfold f_X8_follows at hf
  refine lv_iload_n S.1 S.2.1 dX8_follows_0 rfl (lv_at hl 1 rfl) ?_
  refine lv_iload_n S.1 S.2.1 dX8_follows_1 rfl (lv_at hl 2 rfl) ?_
  refine R_cSi (As := [.int x1, .int x2]) (rest := []) S (c_X8_wordAt   hf) gX8_follows_X8_wordAt rfl yk_X8_wordAt ⟨⟨Nat.le_of_ble_eq_true rfl, Nat.le_of_ble_eq_true rfl⟩, rfl, rfl⟩ hK hP hD hS hX hA rfl hl.1 rfl (Nat.le_of_ble_eq_true rfl) ⟨Nat.zero_le _, Nat.zero_le _⟩ dX8_follows_2 (fun v_3 I_1 J_2 H locs hf hP hD hS => ?_)
  refine lv_iconst (v := 1) S.1 S.2.1 dX8_follows_5 rfl ?_
  refine lv_iadd S.1 S.2.1 dX8_follows_6 ?_
  refine lv_topi (fun x4_4 ex4_4 => ?_)
  have hf := hf x4_4 ex4_4
  refine lv_istore (lv' := [(4, .int x4_4), (0, .ref (eA E 12 0)), (1, .int x1), (2, .int x2), (3, .int x3)]) S.1 S.2.1 dX8_follows_7 hl (by decide) rfl (fun ls hl => ?_)
  refine lv_iload_n S.1 S.2.1 dX8_follows_9 rfl (lv_at hl 2 rfl) ?_
  refine lv_iload_n S.1 S.2.1 dX8_follows_10 rfl (lv_at hl 4 rfl) ?_
  refine R_cSi (As := [.int x1, .int x3]) (rest := []) S (c_X8_wordAt   hf) gX8_follows_X8_wordAt rfl yk_X8_wordAt ⟨⟨Nat.le_of_ble_eq_true rfl, Nat.le_of_ble_eq_true rfl⟩, rfl, rfl⟩ hK hP hD hS hX hA rfl hl.1 rfl (Nat.le_of_ble_eq_true rfl) ⟨Nat.zero_le _, Nat.zero_le _⟩ dX8_follows_11 (fun v_7 I_5 J_6 H locs hf hP hD hS => ?_)
  refine lv_iconst (v := 1) S.1 S.2.1 dX8_follows_14 rfl ?_
  refine lv_iadd S.1 S.2.1 dX8_follows_15 ?_
  refine lv_topi (fun x5_8 ex5_8 => ?_)
  have hf := hf x5_8 ex5_8
  refine lv_istore (lv' := [(5, .int x5_8), (4, .int x4_4), (0, .ref (eA E 12 0)), (1, .int x1), (2, .int x2), (3, .int x3)]) S.1 S.2.1 dX8_follows_16 hl (by decide) rfl (fun ls hl => ?_)
  refine lv_aload_n S.1 S.2.1 dX8_follows_18 rfl (lv_at hl 2 rfl) ?_
  refine lv_iload S.1 S.2.1 dX8_follows_19 (lv_at hl 1 rfl) ?_
  refine lv_aload_n S.1 S.2.1 dX8_follows_21 rfl (lv_at hl 2 rfl) ?_
  refine lv_iload_n S.1 S.2.1 dX8_follows_22 rfl (lv_at hl 3 rfl) ?_
  refine lv_iload_n S.1 S.2.1 dX8_follows_23 rfl (lv_at hl 4 rfl) ?_
  refine R_cVi (As := [.int x1, .int x2]) (rest := [.int x4_4, .ref (eA E 12 0)]) S (c_X8_lengthOf (h12 := h12)  hf) gX8_follows_X8_lengthOf rfl yk_X8_lengthOf ⟨⟨Nat.le_of_ble_eq_true rfl, Nat.le_of_ble_eq_true rfl⟩, rfl, rfl⟩ hK hP hD hS hX hA (h12 0 (by decide)) (cF_m E _ _ 0) rfl rfl hl.1 rfl (Nat.le_of_ble_eq_true rfl) ⟨Nat.zero_le _, Nat.zero_le _⟩ dX8_follows_24 (fun v_11 I_9 J_10 H locs hf hP hD hS => ?_)
  refine lv_iload S.1 S.2.1 dX8_follows_27 (lv_at hl 0 rfl) ?_
  refine lv_aload_n S.1 S.2.1 dX8_follows_29 rfl (lv_at hl 2 rfl) ?_
  refine lv_iload_n S.1 S.2.1 dX8_follows_30 rfl (lv_at hl 3 rfl) ?_
  refine lv_iload_n S.1 S.2.1 dX8_follows_31 rfl (lv_at hl 5 rfl) ?_
  refine R_cVi (As := [.int x1, .int x3]) (rest := [.int x5_8, .int v_11, .int x4_4, .ref (eA E 12 0)]) S (c_X8_lengthOf (h12 := h12)  hf) gX8_follows_X8_lengthOf rfl yk_X8_lengthOf ⟨⟨Nat.le_of_ble_eq_true rfl, Nat.le_of_ble_eq_true rfl⟩, rfl, rfl⟩ hK hP hD hS hX hA (h12 0 (by decide)) (cF_m E _ _ 0) rfl rfl hl.1 rfl (Nat.le_of_ble_eq_true rfl) ⟨Nat.zero_le _, Nat.zero_le _⟩ dX8_follows_32 (fun v_14 I_12 J_13 H locs hf hP hD hS => ?_)
  refine R_cVi (As := [.int x4_4, .int v_11, .int x5_8, .int v_14]) (rest := []) S (c_X8_areSame (h12 := h12)  hf) gX8_follows_X8_areSame rfl yk_X8_areSame ⟨⟨Nat.le_of_ble_eq_true rfl, Nat.le_of_ble_eq_true rfl⟩, rfl, rfl⟩ hK hP hD hS hX hA (h12 0 (by decide)) (cF_m E _ _ 0) rfl rfl hl.1 rfl (Nat.le_of_ble_eq_true rfl) ⟨Nat.zero_le _, Nat.zero_le _⟩ dX8_follows_35 (fun v_17 I_15 J_16 H locs hf hP hD hS => ?_)
  refine lv_if_ne (tgt := 74) S.1 S.2.1 dX8_follows_38 (by decide) (fun h_18 => ?_) (fun h_18 => ?_)
  · have hf := hf.2 h_18
    refine lv_iconst (v := 0) S.1 S.2.1 dX8_follows_74 rfl ?_
    exact hret hf rfl hP hD hS dX8_follows_75
  · have hf := hf.1 h_18
    refine lv_aload_n S.1 S.2.1 dX8_follows_41 rfl (lv_at hl 2 rfl) ?_
    refine lv_iload S.1 S.2.1 dX8_follows_42 (lv_at hl 1 rfl) ?_
    refine lv_aload_n S.1 S.2.1 dX8_follows_44 rfl (lv_at hl 2 rfl) ?_
    refine lv_iload_n S.1 S.2.1 dX8_follows_45 rfl (lv_at hl 3 rfl) ?_
    refine lv_iload_n S.1 S.2.1 dX8_follows_46 rfl (lv_at hl 4 rfl) ?_
    refine R_cVi (As := [.int x1, .int x2]) (rest := [.int x4_4, .ref (eA E 12 0)]) S (c_X8_lengthOf (h12 := h12)  hf) gX8_follows_X8_lengthOf rfl yk_X8_lengthOf ⟨⟨Nat.le_of_ble_eq_true rfl, Nat.le_of_ble_eq_true rfl⟩, rfl, rfl⟩ hK hP hD hS hX hA (h12 0 (by decide)) (cF_m E _ _ 0) rfl rfl hl.1 rfl (Nat.le_of_ble_eq_true rfl) ⟨Nat.zero_le _, Nat.zero_le _⟩ dX8_follows_47 (fun v_21 I_19 J_20 H locs hf hP hD hS => ?_)
    refine lv_iload S.1 S.2.1 dX8_follows_50 (lv_at hl 0 rfl) ?_
    refine lv_aload_n S.1 S.2.1 dX8_follows_52 rfl (lv_at hl 2 rfl) ?_
    refine lv_iload_n S.1 S.2.1 dX8_follows_53 rfl (lv_at hl 3 rfl) ?_
    refine lv_iload_n S.1 S.2.1 dX8_follows_54 rfl (lv_at hl 5 rfl) ?_
    refine R_cVi (As := [.int x1, .int x3]) (rest := [.int x5_8, .int v_21, .int x4_4, .ref (eA E 12 0)]) S (c_X8_lengthOf (h12 := h12)  hf) gX8_follows_X8_lengthOf rfl yk_X8_lengthOf ⟨⟨Nat.le_of_ble_eq_true rfl, Nat.le_of_ble_eq_true rfl⟩, rfl, rfl⟩ hK hP hD hS hX hA (h12 0 (by decide)) (cF_m E _ _ 0) rfl rfl hl.1 rfl (Nat.le_of_ble_eq_true rfl) ⟨Nat.zero_le _, Nat.zero_le _⟩ dX8_follows_55 (fun v_24 I_22 J_23 H locs hf hP hD hS => ?_)
    refine R_cVi (As := [.int x4_4, .int v_21, .int x5_8, .int v_24]) (rest := []) S (c_X8_rhymeOf (h12 := h12)  hf) gX8_follows_X8_rhymeOf rfl yk_X8_rhymeOf ⟨⟨Nat.le_of_ble_eq_true rfl, Nat.le_of_ble_eq_true rfl⟩, rfl, rfl⟩ hK hP hD hS hX hA (h12 0 (by decide)) (cF_m E _ _ 0) rfl rfl hl.1 rfl (Nat.le_of_ble_eq_true rfl) ⟨Nat.zero_le _, Nat.zero_le _⟩ dX8_follows_58 (fun v_27 I_25 J_26 H locs hf hP hD hS => ?_)
    refine lv_aload_n S.1 S.2.1 dX8_follows_61 rfl (lv_at hl 2 rfl) ?_
    refine gfX8_8 S iX8 hK hP (h12 0 (by decide)) k1 dX8_follows_62 ?_
    refine lv_iconst (v := 2) S.1 S.2.1 dX8_follows_65 rfl ?_
    obtain ⟨h_28, hf⟩ := hf
    refine R_iald S.1 S.2.1 hK hP (h12 2 (by decide)) (IAm2 E) h_28 dX8_follows_66 ?_
    refine lv_icmp_lt (tgt := 74) S.1 S.2.1 dX8_follows_67 (by decide) (fun h_29 => ?_) (fun h_29 => ?_)
    · have hf := hf.1 h_29
      refine lv_iconst (v := 0) S.1 S.2.1 dX8_follows_74 rfl ?_
      exact hret hf rfl hP hD hS dX8_follows_75
    · have hf := hf.2 h_29
      refine lv_iconst (v := 1) S.1 S.2.1 dX8_follows_70 rfl ?_
      refine lv_goto (tgt := 75) S.1 S.2.1 dX8_follows_71 (by decide) ?_
      exact hret hf rfl hP hD hS dX8_follows_75
