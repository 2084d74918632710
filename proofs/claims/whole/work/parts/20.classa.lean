abbrev rmJ6_bitCount_0f7a4 : Room := { frames := 0, cells := 0, slots := 0, locals := 0 }
theorem yk_J6_bitCount_0f7a4 : yOk yJ6_bitCount_0f7a4 RJ6 1 := by unfold yOk; decide +kernel
def f_J6_bitCount_0f7a4 (x0 : Int32) (I : MI) (J : MJ) (Q : Int32 → MI → MJ → Prop) : Prop :=
  ∀ x0_1 : Int32, x0_1 = (x0 - (((x0.toUInt32 >>> ((1 : Int32).toUInt32 &&& Int32.toUInt32 31)).toInt32) &&& (1431655765 : Int32))) → ∀ x0_2 : Int32, x0_2 = ((x0_1 &&& (858993459 : Int32)) + (((x0_1.toUInt32 >>> ((2 : Int32).toUInt32 &&& Int32.toUInt32 31)).toInt32) &&& (858993459 : Int32))) → ∀ x0_3 : Int32, x0_3 = ((x0_2 + ((x0_2.toUInt32 >>> ((4 : Int32).toUInt32 &&& Int32.toUInt32 31)).toInt32)) &&& (252645135 : Int32)) → ∀ x0_4 : Int32, x0_4 = (x0_3 + ((x0_3.toUInt32 >>> ((8 : Int32).toUInt32 &&& Int32.toUInt32 31)).toInt32)) → ∀ x0_5 : Int32, x0_5 = (x0_4 + ((x0_4.toUInt32 >>> ((16 : Int32).toUInt32 &&& Int32.toUInt32 31)).toInt32)) → Q (x0_5 &&& (63 : Int32)) I J
set_option maxRecDepth 100000 in
set_option maxHeartbeats 4000000 in
theorem c_J6_bitCount_0f7a4 {l : Launch} {E : EV} {ps : List (Nat × Nat)}  {x0 : Int32} {I : MI} {J : MJ} {Q : Int32 → MI → MJ → Prop} (hf : f_J6_bitCount_0f7a4 x0 I J Q) : KI l yJ6_bitCount_0f7a4 wsJ6_bitCount_0f7a4 rmJ6_bitCount_0f7a4 E ps [.int x0] I J Q := by
  refine K_ofI (cc := cJ6_bitCount_0f7a4) (maxL := 1) (ty := .int) (by decide +kernel) rfl (Nat.le_of_ble_eq_true rfl) (fun p e s m args below meth c Qm hret S hK hX => ?_)
  have hA : ∀ q, s.heap.size ≤ q → AA E ps s.heap.size q := fun _ h => Or.inr h
  have k1 := S.2.2.2.2 (.constant RJ6 265 (1431655765)) (by decide +kernel)
  have k2 := S.2.2.2.2 (.constant RJ6 266 (858993459)) (by decide +kernel)
  have k3 := S.2.2.2.2 (.constant RJ6 267 (252645135)) (by decide +kernel)
  intro H locs ls hP hD hS hl
  unfold f_J6_bitCount_0f7a4 at hf
  refine lv_iload_n S.1 S.2.1 dJ6_bitCount_0f7a4_0 rfl (lv_at hl 0 rfl) ?_
  refine lv_iload_n S.1 S.2.1 dJ6_bitCount_0f7a4_1 rfl (lv_at hl 0 rfl) ?_
  refine lv_iconst (v := 1) S.1 S.2.1 dJ6_bitCount_0f7a4_2 rfl ?_
  refine lv_iushr S.1 S.2.1 dJ6_bitCount_0f7a4_3 rfl ?_
  refine lv_ldcw (v := 1431655765) S.1 S.2.1 S.2.2.2.1 k1 dJ6_bitCount_0f7a4_4 ?_
  refine lv_iand S.1 S.2.1 dJ6_bitCount_0f7a4_7 ?_
  refine lv_isub S.1 S.2.1 dJ6_bitCount_0f7a4_8 ?_
  refine lv_topi (fun x0_1 ex0_1 => ?_)
  have hf := hf x0_1 ex0_1
  refine lv_istore_n (lv' := [(0, .int x0_1)]) S.1 S.2.1 dJ6_bitCount_0f7a4_9 rfl hl (by decide) rfl (fun ls hl => ?_)
  refine lv_iload_n S.1 S.2.1 dJ6_bitCount_0f7a4_10 rfl (lv_at hl 0 rfl) ?_
  refine lv_ldcw (v := 858993459) S.1 S.2.1 S.2.2.2.1 k2 dJ6_bitCount_0f7a4_11 ?_
  refine lv_iand S.1 S.2.1 dJ6_bitCount_0f7a4_14 ?_
  refine lv_iload_n S.1 S.2.1 dJ6_bitCount_0f7a4_15 rfl (lv_at hl 0 rfl) ?_
  refine lv_iconst (v := 2) S.1 S.2.1 dJ6_bitCount_0f7a4_16 rfl ?_
  refine lv_iushr S.1 S.2.1 dJ6_bitCount_0f7a4_17 rfl ?_
  refine lv_ldcw (v := 858993459) S.1 S.2.1 S.2.2.2.1 k2 dJ6_bitCount_0f7a4_18 ?_
  refine lv_iand S.1 S.2.1 dJ6_bitCount_0f7a4_21 ?_
  refine lv_iadd S.1 S.2.1 dJ6_bitCount_0f7a4_22 ?_
  refine lv_topi (fun x0_2 ex0_2 => ?_)
  have hf := hf x0_2 ex0_2
  refine lv_istore_n (lv' := [(0, .int x0_2)]) S.1 S.2.1 dJ6_bitCount_0f7a4_23 rfl hl (by decide) rfl (fun ls hl => ?_)
  refine lv_iload_n S.1 S.2.1 dJ6_bitCount_0f7a4_24 rfl (lv_at hl 0 rfl) ?_
  refine lv_iload_n S.1 S.2.1 dJ6_bitCount_0f7a4_25 rfl (lv_at hl 0 rfl) ?_
  refine lv_iconst (v := 4) S.1 S.2.1 dJ6_bitCount_0f7a4_26 rfl ?_
  refine lv_iushr S.1 S.2.1 dJ6_bitCount_0f7a4_27 rfl ?_
  refine lv_iadd S.1 S.2.1 dJ6_bitCount_0f7a4_28 ?_
  refine lv_ldcw (v := 252645135) S.1 S.2.1 S.2.2.2.1 k3 dJ6_bitCount_0f7a4_29 ?_
  refine lv_iand S.1 S.2.1 dJ6_bitCount_0f7a4_32 ?_
  refine lv_topi (fun x0_3 ex0_3 => ?_)
  have hf := hf x0_3 ex0_3
  refine lv_istore_n (lv' := [(0, .int x0_3)]) S.1 S.2.1 dJ6_bitCount_0f7a4_33 rfl hl (by decide) rfl (fun ls hl => ?_)
  refine lv_iload_n S.1 S.2.1 dJ6_bitCount_0f7a4_34 rfl (lv_at hl 0 rfl) ?_
  refine lv_iload_n S.1 S.2.1 dJ6_bitCount_0f7a4_35 rfl (lv_at hl 0 rfl) ?_
  refine lv_bipush (v := 8) S.1 S.2.1 dJ6_bitCount_0f7a4_36 rfl ?_
  refine lv_iushr S.1 S.2.1 dJ6_bitCount_0f7a4_38 rfl ?_
  refine lv_iadd S.1 S.2.1 dJ6_bitCount_0f7a4_39 ?_
  refine lv_topi (fun x0_4 ex0_4 => ?_)
  have hf := hf x0_4 ex0_4
  refine lv_istore_n (lv' := [(0, .int x0_4)]) S.1 S.2.1 dJ6_bitCount_0f7a4_40 rfl hl (by decide) rfl (fun ls hl => ?_)
  refine lv_iload_n S.1 S.2.1 dJ6_bitCount_0f7a4_41 rfl (lv_at hl 0 rfl) ?_
  refine lv_iload_n S.1 S.2.1 dJ6_bitCount_0f7a4_42 rfl (lv_at hl 0 rfl) ?_
  refine lv_bipush (v := 16) S.1 S.2.1 dJ6_bitCount_0f7a4_43 rfl ?_
  refine lv_iushr S.1 S.2.1 dJ6_bitCount_0f7a4_45 rfl ?_
  refine lv_iadd S.1 S.2.1 dJ6_bitCount_0f7a4_46 ?_
  refine lv_topi (fun x0_5 ex0_5 => ?_)
  have hf := hf x0_5 ex0_5
  refine lv_istore_n (lv' := [(0, .int x0_5)]) S.1 S.2.1 dJ6_bitCount_0f7a4_47 rfl hl (by decide) rfl (fun ls hl => ?_)
  refine lv_iload_n S.1 S.2.1 dJ6_bitCount_0f7a4_48 rfl (lv_at hl 0 rfl) ?_
  refine lv_bipush (v := 63) S.1 S.2.1 dJ6_bitCount_0f7a4_49 rfl ?_
  refine lv_iand S.1 S.2.1 dJ6_bitCount_0f7a4_51 ?_
  exact hret hf rfl hP hD hS dJ6_bitCount_0f7a4_52
abbrev rmJ7_fill_d0a16 : Room := { frames := 0, cells := 0, slots := 0, locals := 0 }
theorem yk_J7_fill_d0a16 : yOk yJ7_fill_d0a16 RJ7 2 := by unfold yOk; decide +kernel
def f_J7_fill_d0a16_B6 (b1 : Nat) (r1 : Nat) (n1 : Nat) (x1_2 : Int64) (x4_4 : Int32) (K22 : MI → MJ → Prop) (rec6 : Int32 → MI → MJ → Prop) (x3_3 : Int32) (I_5 : MI) (J_6 : MJ) : Prop :=
  ((x4_4 ≤ x3_3 → K22 I_5 J_6) ∧ (¬ x4_4 ≤ x3_3 → (vp_in x3_3 n1 ∧ ∀ J_9 : MJ, J_9 = sJ J_6 b1 r1 x3_3.toNatClampNeg x1_2 → ∀ x3_10 : Int32, x3_10 = x3_3 + (1 : Int32) → rec6 x3_10 I_5 J_9)))
def f_J7_fill_d0a16_L6 (b1 : Nat) (r1 : Nat) (n1 : Nat) (x1_2 : Int64) (x4_4 : Int32) (K22 : MI → MJ → Prop) : Nat → Int32 → MI → MJ → Prop
  | 0, _, _, _ => False
  | n + 1, x3_3, I_5, J_6 => f_J7_fill_d0a16_B6 b1 r1 n1 x1_2 x4_4 K22 (f_J7_fill_d0a16_L6 b1 r1 n1 x1_2 x4_4 K22 n) x3_3 I_5 J_6
def f_J7_fill_d0a16 (b1 : Nat) (r1 : Nat) (n1 : Nat) (x1 : Int64) (I : MI) (J : MJ) (Q : MI → MJ → Prop) : Prop :=
  ∀ x4_1 : Int32, x4_1 = nI n1 → ∃ n : Nat, f_J7_fill_d0a16_L6 b1 r1 n1 x1 x4_1 (fun (I_11 : MI) (J_12 : MJ) => Q I_11 J_12) n (0 : Int32) I J
set_option maxRecDepth 100000 in
set_option maxHeartbeats 4000000 in
theorem c_J7_fill_d0a16 {l : Launch} {E : EV} {ps : List (Nat × Nat)} {b1 r1 n1 : Nat} (hm1 : (b1, r1) ∈ ps) (hc1 : LA E b1 r1 n1) {x1 : Int64} {I : MI} {J : MJ} {Q : MI → MJ → Prop} (hf : f_J7_fill_d0a16 b1 r1 n1 x1 I J Q) : KV l yJ7_fill_d0a16 wsJ7_fill_d0a16 rmJ7_fill_d0a16 E ps [.ref (eA E b1 r1), .long x1] I J Q := by
  refine K_ofV (cc := cJ7_fill_d0a16) (maxL := 5) (by decide +kernel) rfl (Nat.le_of_ble_eq_true rfl) (fun p e s m args below meth c Qm hret S hK hX => ?_)
  have hA : ∀ q, s.heap.size ≤ q → AA E ps s.heap.size q := fun _ h => Or.inr h
  intro H locs ls hP hD hS hl
  unfold f_J7_fill_d0a16 at hf
  refine lv_iconst (v := 0) S.1 S.2.1 dJ7_fill_d0a16_0 rfl ?_
  refine lv_istore_n (lv' := [(3, .int (0 : Int32)), (0, .ref (eA E b1 r1)), (1, .long x1)]) S.1 S.2.1 dJ7_fill_d0a16_1 rfl hl (by decide) rfl (fun ls hl => ?_)
  refine lv_aload_n S.1 S.2.1 dJ7_fill_d0a16_2 rfl (lv_at hl 1 rfl) ?_
  refine R_alenL S.1 S.2.1 hK hP hm1 hc1 dJ7_fill_d0a16_3 ?_
  refine lv_topi (fun x4_1 ex4_1 => ?_)
  have hf := hf x4_1 ex4_1
  refine lv_istore (lv' := [(4, .int x4_1), (3, .int (0 : Int32)), (0, .ref (eA E b1 r1)), (1, .long x1)]) S.1 S.2.1 dJ7_fill_d0a16_4 hl (by decide) rfl (fun ls hl => ?_)
  obtain ⟨n_13, hf⟩ := hf
  have L6 : ∀ (x1_2 : Int64), ∀ (x4_4 : Int32), ∀ (K22 : MI → MJ → Prop), (∀ (I_11 : MI) (J_12 : MJ), K22 I_11 J_12 → Wj p l e (rmJ7_fill_d0a16) s m args below meth c Qm E ps 5 I_11 J_12 22 [] []) → ∀ (n : Nat) (x3_3 : Int32) (I_5 : MI) (J_6 : MJ), f_J7_fill_d0a16_L6 b1 r1 n1 x1_2 x4_4 K22 n x3_3 I_5 J_6 → Wj p l e (rmJ7_fill_d0a16) s m args below meth c Qm E ps 5 I_5 J_6 6 [(0, .ref (eA E b1 r1)), (1, .long x1_2), (3, .int x3_3), (4, .int x4_4)] [] := by
    intro x1_2 x4_4 K22 kx22 n
    induction n with
    | zero => intro x3_3 I_5 J_6 hf; exact hf.elim
    | succ n ih6 =>
      intro x3_3 I_5 J_6 hf
      have hf : f_J7_fill_d0a16_B6 b1 r1 n1 x1_2 x4_4 K22 (f_J7_fill_d0a16_L6 b1 r1 n1 x1_2 x4_4 K22 n) x3_3 I_5 J_6 := hf
      intro H locs ls hP hD hS hl
      unfold f_J7_fill_d0a16_B6 at hf
      refine lv_iload_n S.1 S.2.1 dJ7_fill_d0a16_6 rfl (lv_at hl 2 rfl) ?_
      refine lv_iload S.1 S.2.1 dJ7_fill_d0a16_7 (lv_at hl 3 rfl) ?_
      refine lv_icmp_ge (tgt := 22) S.1 S.2.1 dJ7_fill_d0a16_9 (by decide) (fun h_7 => ?_) (fun h_7 => ?_)
      · have hf := hf.1 h_7
        exact kx22 _ _ hf _ _ _ hP hD hS (lv_sub hl [] rfl)
      · have hf := hf.2 h_7
        refine lv_aload_n S.1 S.2.1 dJ7_fill_d0a16_12 rfl (lv_at hl 0 rfl) ?_
        refine lv_iload_n S.1 S.2.1 dJ7_fill_d0a16_13 rfl (lv_at hl 2 rfl) ?_
        refine lv_lload_n S.1 S.2.1 dJ7_fill_d0a16_14 rfl (lv_at hl 1 rfl) ?_
        obtain ⟨h_8, hf⟩ := hf
        refine nm_o hf (fun J_9 eJ_9 hf => ?_)
        refine R_last S.1 S.2.1 hK hP hD hS hm1 hc1 h_8 dJ7_fill_d0a16_15 eJ_9 (fun H locs hP hD hS => ?_)
        refine nm_o hf (fun x3_10 ex3_10 hf => ?_)
        refine lv_iinc (v := x3_10) (lv' := [(3, .int x3_10), (0, .ref (eA E b1 r1)), (1, .long x1_2), (4, .int x4_4)]) S.1 S.2.1 dJ7_fill_d0a16_16 hl (k := 2) rfl (by rw [ex3_10]; rfl) (by decide) rfl (fun ls hl => ?_)
        refine lv_goto (tgt := 6) S.1 S.2.1 dJ7_fill_d0a16_19 (by decide) ?_
        exact ih6 _ _ _ hf _ _ _ hP hD hS (lv_sub hl [1, 2, 0, 3] rfl)
  refine L6 _ _ _ (fun I_11 J_12 hf H locs ls hP hD hS hl => ?_)  n_13 _ _ _ hf _ _ _ hP hD hS (lv_sub hl [2, 3, 1, 0] rfl)
  exact hret hf hP hD hS dJ7_fill_d0a16_22
abbrev rmJ7_fill_53178 : Room := { frames := 0, cells := 0, slots := 0, locals := 0 }
theorem yk_J7_fill_53178 : yOk yJ7_fill_53178 RJ7 2 := by unfold yOk; decide +kernel
def f_J7_fill_53178_B5 (b1 : Nat) (r1 : Nat) (n1 : Nat) (x1_2 : Int32) (x3_4 : Int32) (K20 : MI → MJ → Prop) (rec5 : Int32 → MI → MJ → Prop) (x2_3 : Int32) (I_5 : MI) (J_6 : MJ) : Prop :=
  ((x3_4 ≤ x2_3 → K20 I_5 J_6) ∧ (¬ x3_4 ≤ x2_3 → (vp_in x2_3 n1 ∧ ∀ I_9 : MI, I_9 = sI I_5 b1 r1 x2_3.toNatClampNeg x1_2 → ∀ x2_10 : Int32, x2_10 = x2_3 + (1 : Int32) → rec5 x2_10 I_9 J_6)))
def f_J7_fill_53178_L5 (b1 : Nat) (r1 : Nat) (n1 : Nat) (x1_2 : Int32) (x3_4 : Int32) (K20 : MI → MJ → Prop) : Nat → Int32 → MI → MJ → Prop
  | 0, _, _, _ => False
  | n + 1, x2_3, I_5, J_6 => f_J7_fill_53178_B5 b1 r1 n1 x1_2 x3_4 K20 (f_J7_fill_53178_L5 b1 r1 n1 x1_2 x3_4 K20 n) x2_3 I_5 J_6
def f_J7_fill_53178 (b1 : Nat) (r1 : Nat) (n1 : Nat) (x1 : Int32) (I : MI) (J : MJ) (Q : MI → MJ → Prop) : Prop :=
  ∀ x3_1 : Int32, x3_1 = nI n1 → ∃ n : Nat, f_J7_fill_53178_L5 b1 r1 n1 x1 x3_1 (fun (I_11 : MI) (J_12 : MJ) => Q I_11 J_12) n (0 : Int32) I J
set_option maxRecDepth 100000 in
set_option maxHeartbeats 4000000 in
theorem c_J7_fill_53178 {l : Launch} {E : EV} {ps : List (Nat × Nat)} {b1 r1 n1 : Nat} (hm1 : (b1, r1) ∈ ps) (hc1 : IA E b1 r1 n1) {x1 : Int32} {I : MI} {J : MJ} {Q : MI → MJ → Prop} (hf : f_J7_fill_53178 b1 r1 n1 x1 I J Q) : KV l yJ7_fill_53178 wsJ7_fill_53178 rmJ7_fill_53178 E ps [.ref (eA E b1 r1), .int x1] I J Q := by
  refine K_ofV (cc := cJ7_fill_53178) (maxL := 4) (by decide +kernel) rfl (Nat.le_of_ble_eq_true rfl) (fun p e s m args below meth c Qm hret S hK hX => ?_)
  have hA : ∀ q, s.heap.size ≤ q → AA E ps s.heap.size q := fun _ h => Or.inr h
  intro H locs ls hP hD hS hl
  unfold f_J7_fill_53178 at hf
  refine lv_iconst (v := 0) S.1 S.2.1 dJ7_fill_53178_0 rfl ?_
  refine lv_istore_n (lv' := [(2, .int (0 : Int32)), (0, .ref (eA E b1 r1)), (1, .int x1)]) S.1 S.2.1 dJ7_fill_53178_1 rfl hl (by decide) rfl (fun ls hl => ?_)
  refine lv_aload_n S.1 S.2.1 dJ7_fill_53178_2 rfl (lv_at hl 1 rfl) ?_
  refine R_alenI S.1 S.2.1 hK hP hm1 hc1 dJ7_fill_53178_3 ?_
  refine lv_topi (fun x3_1 ex3_1 => ?_)
  have hf := hf x3_1 ex3_1
  refine lv_istore_n (lv' := [(3, .int x3_1), (2, .int (0 : Int32)), (0, .ref (eA E b1 r1)), (1, .int x1)]) S.1 S.2.1 dJ7_fill_53178_4 rfl hl (by decide) rfl (fun ls hl => ?_)
  obtain ⟨n_13, hf⟩ := hf
  have L5 : ∀ (x1_2 : Int32), ∀ (x3_4 : Int32), ∀ (K20 : MI → MJ → Prop), (∀ (I_11 : MI) (J_12 : MJ), K20 I_11 J_12 → Wj p l e (rmJ7_fill_53178) s m args below meth c Qm E ps 4 I_11 J_12 20 [] []) → ∀ (n : Nat) (x2_3 : Int32) (I_5 : MI) (J_6 : MJ), f_J7_fill_53178_L5 b1 r1 n1 x1_2 x3_4 K20 n x2_3 I_5 J_6 → Wj p l e (rmJ7_fill_53178) s m args below meth c Qm E ps 4 I_5 J_6 5 [(0, .ref (eA E b1 r1)), (1, .int x1_2), (2, .int x2_3), (3, .int x3_4)] [] := by
    intro x1_2 x3_4 K20 kx20 n
    induction n with
    | zero => intro x2_3 I_5 J_6 hf; exact hf.elim
    | succ n ih5 =>
      intro x2_3 I_5 J_6 hf
      have hf : f_J7_fill_53178_B5 b1 r1 n1 x1_2 x3_4 K20 (f_J7_fill_53178_L5 b1 r1 n1 x1_2 x3_4 K20 n) x2_3 I_5 J_6 := hf
      intro H locs ls hP hD hS hl
      unfold f_J7_fill_53178_B5 at hf
      refine lv_iload_n S.1 S.2.1 dJ7_fill_53178_5 rfl (lv_at hl 2 rfl) ?_
      refine lv_iload_n S.1 S.2.1 dJ7_fill_53178_6 rfl (lv_at hl 3 rfl) ?_
      refine lv_icmp_ge (tgt := 20) S.1 S.2.1 dJ7_fill_53178_7 (by decide) (fun h_7 => ?_) (fun h_7 => ?_)
      · have hf := hf.1 h_7
        exact kx20 _ _ hf _ _ _ hP hD hS (lv_sub hl [] rfl)
      · have hf := hf.2 h_7
        refine lv_aload_n S.1 S.2.1 dJ7_fill_53178_10 rfl (lv_at hl 0 rfl) ?_
        refine lv_iload_n S.1 S.2.1 dJ7_fill_53178_11 rfl (lv_at hl 2 rfl) ?_
        refine lv_iload_n S.1 S.2.1 dJ7_fill_53178_12 rfl (lv_at hl 1 rfl) ?_
        obtain ⟨h_8, hf⟩ := hf
        refine nm_o hf (fun I_9 eI_9 hf => ?_)
        refine R_iast S.1 S.2.1 hK hP hD hS hm1 hc1 h_8 dJ7_fill_53178_13 eI_9 (fun H locs hP hD hS => ?_)
        refine nm_o hf (fun x2_10 ex2_10 hf => ?_)
        refine lv_iinc (v := x2_10) (lv' := [(2, .int x2_10), (0, .ref (eA E b1 r1)), (1, .int x1_2), (3, .int x3_4)]) S.1 S.2.1 dJ7_fill_53178_14 hl (k := 2) rfl (by rw [ex2_10]; rfl) (by decide) rfl (fun ls hl => ?_)
        refine lv_goto (tgt := 5) S.1 S.2.1 dJ7_fill_53178_17 (by decide) ?_
        exact ih5 _ _ _ hf _ _ _ hP hD hS (lv_sub hl [1, 2, 0, 3] rfl)
  refine L5 _ _ _ (fun I_11 J_12 hf H locs ls hP hD hS hl => ?_)  n_13 _ _ _ hf _ _ _ hP hD hS (lv_sub hl [2, 3, 1, 0] rfl)
  exact hret hf hP hD hS dJ7_fill_53178_20
abbrev rmX3_indexOf : Room := { frames := 0, cells := 0, slots := 0, locals := 0 }
theorem yk_X3_indexOf : yOk yX3_indexOf RX3 1 := by unfold yOk; decide +kernel
def f_X3_indexOf (x0 : Int32) (I : MI) (J : MJ) (Q : Int32 → MI → MJ → Prop) : Prop :=
  Q ((-1 : Int32) - x0) I J
set_option maxRecDepth 100000 in
set_option maxHeartbeats 4000000 in
theorem c_X3_indexOf {l : Launch} {E : EV} {ps : List (Nat × Nat)}  {x0 : Int32} {I : MI} {J : MJ} {Q : Int32 → MI → MJ → Prop} (hf : f_X3_indexOf x0 I J Q) : KI l yX3_indexOf wsX3_indexOf rmX3_indexOf E ps [.int x0] I J Q := by
  refine K_ofI (cc := cX3_indexOf) (maxL := 1) (ty := .int) (by decide +kernel) rfl (Nat.le_of_ble_eq_true rfl) (fun p e s m args below meth c Qm hret S hK hX => ?_)
  have hA : ∀ q, s.heap.size ≤ q → AA E ps s.heap.size q := fun _ h => Or.inr h
  intro H locs ls hP hD hS hl
  unfold f_X3_indexOf at hf
  refine lv_iconst (v := (-1)) S.1 S.2.1 dX3_indexOf_0 rfl ?_
  refine lv_iload_n S.1 S.2.1 dX3_indexOf_1 rfl (lv_at hl 0 rfl) ?_
  refine lv_isub S.1 S.2.1 dX3_indexOf_2 ?_
  exact hret hf rfl hP hD hS dX3_indexOf_3
abbrev rmX3_clear : Room := { frames := 0, cells := 0, slots := 0, locals := 0 }
theorem yk_X3_clear : yOk yX3_clear RX3 0 := by unfold yOk; decide +kernel
def f_X3_clear (b : Nat) (I : MI) (J : MJ) (Q : MI → MJ → Prop) : Prop :=
  ∀ I_1 : MI, I_1 = sI I b 2 2 (0 : Int32) → Q I_1 J
set_option maxRecDepth 100000 in
set_option maxHeartbeats 4000000 in
theorem c_X3_clear {l : Launch} {E : EV} {ps : List (Nat × Nat)} {b : Nat} (hB : b < 11) (hM : ∀ r, r < 16 → (b, r) ∈ ps) {I : MI} {J : MJ} {Q : MI → MJ → Prop} (hf : f_X3_clear b I J Q) : KV l yX3_clear wsX3_clear rmX3_clear E ps [.ref (eA E b 2)] I J Q := by
  refine K_ofV (cc := cX3_clear) (maxL := 1) (by decide +kernel) rfl (Nat.le_of_ble_eq_true rfl) (fun p e s m args below meth c Qm hret S hK hX => ?_)
  have hA : ∀ q, s.heap.size ≤ q → AA E ps s.heap.size q := fun _ h => Or.inr h
  have k1 := S.2.2.2.2 (.fieldLink RX3 18 "RhymeRoofs$Rank" "length" "I") (by decide +kernel)
  have iX3 : ∀ w ∈ wsX30, w ∈ wsX3_clear := fun _ h => List.mem_cons_of_mem _ (List.mem_append_right _ h)
  intro H locs ls hP hD hS hl
  unfold f_X3_clear at hf
  refine lv_aload_n S.1 S.2.1 dX3_clear_0 rfl (lv_at hl 0 rfl) ?_
  refine lv_iconst (v := 0) S.1 S.2.1 dX3_clear_1 rfl ?_
  refine nm_o hf (fun I_1 eI_1 hf => ?_)
  refine pfX3_2 S iX3 hK hP hD hS hB (hM 2 (by decide)) k1 dX3_clear_2 eI_1 (fun H locs hP hD hS => ?_)
  exact hret hf hP hD hS dX3_clear_5
abbrev rmX3_add : Room := { frames := 0, cells := 0, slots := 0, locals := 0 }
theorem yk_X3_add : yOk yX3_add RX3 1 := by unfold yOk; decide +kernel
def f_X3_add (b : Nat) (x1 : Int32) (I : MI) (J : MJ) (Q : MI → MJ → Prop) : Prop :=
  (((600 : Int32) ≤ (I b 2 2) → Q I J) ∧ (¬ (600 : Int32) ≤ (I b 2 2) → (vp_in (I b 2 2) 600 ∧ ∀ I_3 : MI, I_3 = sI I b 5 (I b 2 2).toNatClampNeg x1 → ∀ I_4 : MI, I_4 = sI I_3 b 2 2 ((I_3 b 2 2) + (1 : Int32)) → Q I_4 J)))
set_option maxRecDepth 100000 in
set_option maxHeartbeats 4000000 in
theorem c_X3_add {l : Launch} {E : EV} {ps : List (Nat × Nat)} {b : Nat} (hB : b < 11) (hM : ∀ r, r < 16 → (b, r) ∈ ps) {x1 : Int32} {I : MI} {J : MJ} {Q : MI → MJ → Prop} (hf : f_X3_add b x1 I J Q) : KV l yX3_add wsX3_add rmX3_add E ps [.ref (eA E b 2), .int x1] I J Q := by
  refine K_ofV (cc := cX3_add) (maxL := 2) (by decide +kernel) rfl (Nat.le_of_ble_eq_true rfl) (fun p e s m args below meth c Qm hret S hK hX => ?_)
  have hA : ∀ q, s.heap.size ≤ q → AA E ps s.heap.size q := fun _ h => Or.inr h
  have k1 := S.2.2.2.2 (.fieldLink RX3 18 "RhymeRoofs$Rank" "length" "I") (by decide +kernel)
  have iX3 : ∀ w ∈ wsX30, w ∈ wsX3_add := fun _ h => List.mem_cons_of_mem _ (List.mem_append_right _ h)
  have k2 := S.2.2.2.2 (.fieldLink RX3 9 "RhymeRoofs$Rank" "codes" "[I") (by decide +kernel)
  intro H locs ls hP hD hS hl
  unfold f_X3_add at hf
  refine lv_aload_n S.1 S.2.1 dX3_add_0 rfl (lv_at hl 0 rfl) ?_
  refine gfX3_2 S iX3 hK hP hB (hM 2 (by decide)) k1 dX3_add_1 ?_
  refine lv_aload_n S.1 S.2.1 dX3_add_4 rfl (lv_at hl 0 rfl) ?_
  refine gfX3_0 S iX3 hK hP hB (hM 2 (by decide)) k2 dX3_add_5 ?_
  refine R_alenI S.1 S.2.1 hK hP (hM 5 (by decide)) (IAg5 E hB) dX3_add_8 ?_
  refine lv_icmp_ge (tgt := 32) S.1 S.2.1 dX3_add_9 (by decide) (fun h_1 => ?_) (fun h_1 => ?_)
  · have hf := hf.1 h_1
    exact hret hf hP hD hS dX3_add_32
  · have hf := hf.2 h_1
    refine lv_aload_n S.1 S.2.1 dX3_add_12 rfl (lv_at hl 0 rfl) ?_
    refine gfX3_0 S iX3 hK hP hB (hM 2 (by decide)) k2 dX3_add_13 ?_
    refine lv_aload_n S.1 S.2.1 dX3_add_16 rfl (lv_at hl 0 rfl) ?_
    refine gfX3_2 S iX3 hK hP hB (hM 2 (by decide)) k1 dX3_add_17 ?_
    refine lv_iload_n S.1 S.2.1 dX3_add_20 rfl (lv_at hl 1 rfl) ?_
    obtain ⟨h_2, hf⟩ := hf
    refine nm_o hf (fun I_3 eI_3 hf => ?_)
    refine R_iast S.1 S.2.1 hK hP hD hS (hM 5 (by decide)) (IAg5 E hB) h_2 dX3_add_21 eI_3 (fun H locs hP hD hS => ?_)
    refine lv_aload_n S.1 S.2.1 dX3_add_22 rfl (lv_at hl 0 rfl) ?_
    refine lv_dup S.1 S.2.1 dX3_add_23 rfl ?_
    refine gfX3_2 S iX3 hK hP hB (hM 2 (by decide)) k1 dX3_add_24 ?_
    refine lv_iconst (v := 1) S.1 S.2.1 dX3_add_27 rfl ?_
    refine lv_iadd S.1 S.2.1 dX3_add_28 ?_
    refine nm_o hf (fun I_4 eI_4 hf => ?_)
    refine pfX3_2 S iX3 hK hP hD hS hB (hM 2 (by decide)) k1 dX3_add_29 eI_4 (fun H locs hP hD hS => ?_)
    exact hret hf hP hD hS dX3_add_32
abbrev rmX3_copyFrom : Room := { frames := 1, cells := 0, slots := 0, locals := 64 }
theorem yk_X3_copyFrom : yOk yX3_copyFrom RX3 1 := by unfold yOk; decide +kernel
def f_X3_copyFrom (b : Nat) (g : Nat) (I : MI) (J : MJ) (Q : MI → MJ → Prop) : Prop :=
  ((¬ (0 : Int32) < 0 ∧ ¬ (0 : Int32) < 0 ∧ ¬ (I g 2 2) < 0 ∧ (0 : Int32).toNatClampNeg + (I g 2 2).toNatClampNeg ≤ 600 ∧ (0 : Int32).toNatClampNeg + (I g 2 2).toNatClampNeg ≤ 600) ∧ ∀ I_2 : MI, I_2 = rI I b 5 (va_cpy (I g 5) (I b 5) (0 : Int32).toNatClampNeg (0 : Int32).toNatClampNeg (I g 2 2).toNatClampNeg) → ∀ I_3 : MI, I_3 = sI I_2 b 2 2 (I_2 g 2 2) → Q I_3 J)
set_option maxRecDepth 100000 in
set_option maxHeartbeats 4000000 in
theorem c_X3_copyFrom {l : Launch} {E : EV} {ps : List (Nat × Nat)} {b : Nat} (hB : b < 11) (hM : ∀ r, r < 16 → (b, r) ∈ ps) {g : Nat} (hBg : g < 11) (hMg : ∀ r, r < 16 → (g, r) ∈ ps) {I : MI} {J : MJ} {Q : MI → MJ → Prop} (hf : f_X3_copyFrom b g I J Q) : KV l yX3_copyFrom wsX3_copyFrom rmX3_copyFrom E ps [.ref (eA E b 2), .ref (eA E g 2)] I J Q := by
  refine K_ofV (cc := cX3_copyFrom) (maxL := 2) (by decide +kernel) rfl (Nat.le_of_ble_eq_true rfl) (fun p e s m args below meth c Qm hret S hK hX => ?_)
  have hA : ∀ q, s.heap.size ≤ q → AA E ps s.heap.size q := fun _ h => Or.inr h
  have k1 := S.2.2.2.2 (.fieldLink RX3 9 "RhymeRoofs$Rank" "codes" "[I") (by decide +kernel)
  have iX3 : ∀ w ∈ wsX30, w ∈ wsX3_copyFrom := fun _ h => List.mem_cons_of_mem _ (List.mem_append_right _ h)
  have k2 := S.2.2.2.2 (.fieldLink RX3 18 "RhymeRoofs$Rank" "length" "I") (by decide +kernel)
  have k3 := S.2.2.2.2 (.methodLink RX3 26 arraycopyName) (by decide +kernel)
  have k4 := S.2.2.2.2 (.native arraycopyName) (by decide +kernel)
  have k5 := S.2.2.2.2 (.static arraycopyName) (by decide +kernel)
  have k6 := S.2.2.2.2 (.initialized "java/lang/System") (by decide +kernel)
  intro H locs ls hP hD hS hl
  unfold f_X3_copyFrom at hf
  refine lv_aload_n S.1 S.2.1 dX3_copyFrom_0 rfl (lv_at hl 1 rfl) ?_
  refine gfX3_0 S iX3 hK hP hBg (hMg 2 (by decide)) k1 dX3_copyFrom_1 ?_
  refine lv_iconst (v := 0) S.1 S.2.1 dX3_copyFrom_4 rfl ?_
  refine lv_aload_n S.1 S.2.1 dX3_copyFrom_5 rfl (lv_at hl 0 rfl) ?_
  refine gfX3_0 S iX3 hK hP hB (hM 2 (by decide)) k1 dX3_copyFrom_6 ?_
  refine lv_iconst (v := 0) S.1 S.2.1 dX3_copyFrom_9 rfl ?_
  refine lv_aload_n S.1 S.2.1 dX3_copyFrom_10 rfl (lv_at hl 1 rfl) ?_
  refine gfX3_2 S iX3 hK hP hBg (hMg 2 (by decide)) k2 dX3_copyFrom_11 ?_
  obtain ⟨h_1, hf⟩ := hf
  refine nm_o hf (fun I_2 eI_2 hf => ?_)
  refine R_cpyI S (hl.1) k3 k4 k5 k6 hK hP hD hS (hMg 5 (by decide)) (IAg5 E hBg) (hM 5 (by decide)) (IAg5 E hB) h_1 (Nat.le_of_ble_eq_true rfl) (Nat.le_of_ble_eq_true rfl) dX3_copyFrom_14 eI_2 (fun H locs hP hD hS => ?_)
  refine lv_aload_n S.1 S.2.1 dX3_copyFrom_17 rfl (lv_at hl 0 rfl) ?_
  refine lv_aload_n S.1 S.2.1 dX3_copyFrom_18 rfl (lv_at hl 1 rfl) ?_
  refine gfX3_2 S iX3 hK hP hBg (hMg 2 (by decide)) k2 dX3_copyFrom_19 ?_
  refine nm_o hf (fun I_3 eI_3 hf => ?_)
  refine pfX3_2 S iX3 hK hP hD hS hB (hM 2 (by decide)) k2 dX3_copyFrom_22 eI_3 (fun H locs hP hD hS => ?_)
  exact hret hf hP hD hS dX3_copyFrom_25
