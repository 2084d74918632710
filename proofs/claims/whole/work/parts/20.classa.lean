abbrev rmJ6_bitCount_0f7a4 : Room := { frames := 0, cells := 0, slots := 0, locals := 0 }
theorem yk_J6_bitCount_0f7a4 : yOk yJ6_bitCount_0f7a4 RJ6 1 := by unfold yOk; decide +kernel
def f_J6_bitCount_0f7a4 (x0 : Int32) (I : MI) (J : MJ) (Q : Int32 → MI → MJ → Prop) : Prop :=
  ∀ x0_1 : Int32, x0_1 = (x0 - (((x0.toUInt32 >>> ((1 : Int32).toUInt32 &&& Int32.toUInt32 31)).toInt32) &&& (1431655765 : Int32))) → ∀ x0_2 : Int32, x0_2 = ((x0_1 &&& (858993459 : Int32)) + (((x0_1.toUInt32 >>> ((2 : Int32).toUInt32 &&& Int32.toUInt32 31)).toInt32) &&& (858993459 : Int32))) → ∀ x0_3 : Int32, x0_3 = ((x0_2 + ((x0_2.toUInt32 >>> ((4 : Int32).toUInt32 &&& Int32.toUInt32 31)).toInt32)) &&& (252645135 : Int32)) → ∀ x0_4 : Int32, x0_4 = (x0_3 + ((x0_3.toUInt32 >>> ((8 : Int32).toUInt32 &&& Int32.toUInt32 31)).toInt32)) → ∀ x0_5 : Int32, x0_5 = (x0_4 + ((x0_4.toUInt32 >>> ((16 : Int32).toUInt32 &&& Int32.toUInt32 31)).toInt32)) → Q (x0_5 &&& (63 : Int32)) I J
set_option maxRecDepth 100000 in
set_option maxHeartbeats 4000000 in
theorem c_J6_bitCount_0f7a4 {l : Launch} {E : EV} {ps : List (Nat × Nat)}  {x0 : Int32} {I : MI} {J : MJ} {Q : Int32 → MI → MJ → Prop} (hf : f_J6_bitCount_0f7a4 x0 I J Q) : KI l yJ6_bitCount_0f7a4 wsJ6_bitCount_0f7a4 rmJ6_bitCount_0f7a4 E ps [.int x0] I J Q := by
  refine K_ofI (cc := cJ6_bitCount_0f7a4) (maxL := 1) (ty := .int) (by decide +kernel) rfl (Nat.le_of_ble_eq_true rfl) (fun p e s m args below meth c Qm hret S hK hX => ?_)
  have hA : ∀ q, s.heap.size ≤ q → AA E ps s.heap.size q := fun _ h => Or.inr h
  have k1 := S.2.2.2.2 (.constant RJ6 265 (1431655765)) (by decide +kernel)
  have k2 := S.2.2.2.2 (.constant RJ6 266 (858993459)) (by decide +kernel)
  have k3 := S.2.2.2.2 (.constant RJ6 267 (252645135)) (by decide +kernel)
  intro H locs ls hP hD hS hl
  unfold f_J6_bitCount_0f7a4 at hf
  refine lv_iload_n S.1 S.2.1 dJ6_bitCount_0f7a4_0 rfl (lv_at hl 0 rfl) ?_
  refine lv_iload_n S.1 S.2.1 dJ6_bitCount_0f7a4_1 rfl (lv_at hl 0 rfl) ?_
  refine lv_iconst (v := 1) S.1 S.2.1 dJ6_bitCount_0f7a4_2 rfl ?_
  refine lv_iushr S.1 S.2.1 dJ6_bitCount_0f7a4_3 rfl ?_
  refine lv_ldcw (v := 1431655765) S.1 S.2.1 S.2.2.2.1 k1 dJ6_bitCount_0f7a4_4 ?_
  refine lv_iand S.1 S.2.1 dJ6_bitCount_0f7a4_7 ?_
  refine lv_isub S.1 S.2.1 dJ6_bitCount_0f7a4_8 ?_
  refine lv_topi (fun x0_1 ex0_1 => ?_)
  have hf := hf x0_1 ex0_1
  refine lv_istore_n (lv' := [(0, .int x0_1)]) S.1 S.2.1 dJ6_bitCount_0f7a4_9 rfl hl (by decide) rfl (fun ls hl => ?_)
  refine lv_iload_n S.1 S.2.1 dJ6_bitCount_0f7a4_10 rfl (lv_at hl 0 rfl) ?_
  refine lv_ldcw (v := 858993459) S.1 S.2.1 S.2.2.2.1 k2 dJ6_bitCount_0f7a4_11 ?_
  refine lv_iand S.1 S.2.1 dJ6_bitCount_0f7a4_14 ?_
  refine lv_iload_n S.1 S.2.1 dJ6_bitCount_0f7a4_15 rfl (lv_at hl 0 rfl) ?_
  refine lv_iconst (v := 2) S.1 S.2.1 dJ6_bitCount_0f7a4_16 rfl ?_
  refine lv_iushr S.1 S.2.1 dJ6_bitCount_0f7a4_17 rfl ?_
  refine lv_ldcw (v := 858993459) S.1 S.2.1 S.2.2.2.1 k2 dJ6_bitCount_0f7a4_18 ?_
  refine lv_iand S.1 S.2.1 dJ6_bitCount_0f7a4_21 ?_
  refine lv_iadd S.1 S.2.1 dJ6_bitCount_0f7a4_22 ?_
  refine lv_topi (fun x0_2 ex0_2 => ?_)
  have hf := hf x0_2 ex0_2
  refine lv_istore_n (lv' := [(0, .int x0_2)]) S.1 S.2.1 dJ6_bitCount_0f7a4_23 rfl hl (by decide) rfl (fun ls hl => ?_)
  refine lv_iload_n S.1 S.2.1 dJ6_bitCount_0f7a4_24 rfl (lv_at hl 0 rfl) ?_
  refine lv_iload_n S.1 S.2.1 dJ6_bitCount_0f7a4_25 rfl (lv_at hl 0 rfl) ?_
  refine lv_iconst (v := 4) S.1 S.2.1 dJ6_bitCount_0f7a4_26 rfl ?_
  refine lv_iushr S.1 S.2.1 dJ6_bitCount_0f7a4_27 rfl ?_
  refine lv_iadd S.1 S.2.1 dJ6_bitCount_0f7a4_28 ?_
  refine lv_ldcw (v := 252645135) S.1 S.2.1 S.2.2.2.1 k3 dJ6_bitCount_0f7a4_29 ?_
  refine lv_iand S.1 S.2.1 dJ6_bitCount_0f7a4_32 ?_
  refine lv_topi (fun x0_3 ex0_3 => ?_)
  have hf := hf x0_3 ex0_3
  refine lv_istore_n (lv' := [(0, .int x0_3)]) S.1 S.2.1 dJ6_bitCount_0f7a4_33 rfl hl (by decide) rfl (fun ls hl => ?_)
  refine lv_iload_n S.1 S.2.1 dJ6_bitCount_0f7a4_34 rfl (lv_at hl 0 rfl) ?_
  refine lv_iload_n S.1 S.2.1 dJ6_bitCount_0f7a4_35 rfl (lv_at hl 0 rfl) ?_
  refine lv_bipush (v := 8) S.1 S.2.1 dJ6_bitCount_0f7a4_36 rfl ?_
  refine lv_iushr S.1 S.2.1 dJ6_bitCount_0f7a4_38 rfl ?_
  refine lv_iadd S.1 S.2.1 dJ6_bitCount_0f7a4_39 ?_
  refine lv_topi (fun x0_4 ex0_4 => ?_)
  have hf := hf x0_4 ex0_4
  refine lv_istore_n (lv' := [(0, .int x0_4)]) S.1 S.2.1 dJ6_bitCount_0f7a4_40 rfl hl (by decide) rfl (fun ls hl => ?_)
  refine lv_iload_n S.1 S.2.1 dJ6_bitCount_0f7a4_41 rfl (lv_at hl 0 rfl) ?_
  refine lv_iload_n S.1 S.2.1 dJ6_bitCount_0f7a4_42 rfl (lv_at hl 0 rfl) ?_
  refine lv_bipush (v := 16) S.1 S.2.1 dJ6_bitCount_0f7a4_43 rfl ?_
  refine lv_iushr S.1 S.2.1 dJ6_bitCount_0f7a4_45 rfl ?_
  refine lv_iadd S.1 S.2.1 dJ6_bitCount_0f7a4_46 ?_
  refine lv_topi (fun x0_5 ex0_5 => ?_)
  have hf := hf x0_5 ex0_5
  refine lv_istore_n (lv' := [(0, .int x0_5)]) S.1 S.2.1 dJ6_bitCount_0f7a4_47 rfl hl (by decide) rfl (fun ls hl => ?_)
  refine lv_iload_n S.1 S.2.1 dJ6_bitCount_0f7a4_48 rfl (lv_at hl 0 rfl) ?_
  refine lv_bipush (v := 63) S.1 S.2.1 dJ6_bitCount_0f7a4_49 rfl ?_
  refine lv_iand S.1 S.2.1 dJ6_bitCount_0f7a4_51 ?_
  exact hret hf rfl hP hD hS dJ6_bitCount_0f7a4_52
abbrev rmJ7_fill_d0a16 : Room := { frames := 0, cells := 0, slots := 0, locals := 0 }
theorem yk_J7_fill_d0a16 : yOk yJ7_fill_d0a16 RJ7 2 := by unfold yOk; decide +kernel
def f_J7_fill_d0a16_B6 (b1 : Nat) (r1 : Nat) (n1 : Nat) (x1_2 : Int64) (x4_4 : Int32) (K22 : MI → MJ → Prop) (rec6 : Int32 → MI → MJ → Prop) (x3_3 : Int32) (I_5 : MI) (J_6 : MJ) : Prop :=
  ((x4_4 ≤ x3_3 → K22 I_5 J_6) ∧ (¬ x4_4 ≤ x3_3 → (vp_in x3_3 n1 ∧ ∀ J_9 : MJ, J_9 = sJ J_6 b1 r1 x3_3.toNatClampNeg x1_2 → ∀ x3_10 : Int32, x3_10 = x3_3 + (1 : Int32) → rec6 x3_10 I_5 J_9)))
def f_J7_fill_d0a16_L6 (b1 : Nat) (r1 : Nat) (n1 : Nat) (x1_2 : Int64) (x4_4 : Int32) (K22 : MI → MJ → Prop) : Nat → Int32 → MI → MJ → Prop
  | 0, _, _, _ => False
  | n + 1, x3_3, I_5, J_6 => f_J7_fill_d0a16_B6 b1 r1 n1 x1_2 x4_4 K22 (f_J7_fill_d0a16_L6 b1 r1 n1 x1_2 x4_4 K22 n) x3_3 I_5 J_6
def f_J7_fill_d0a16 (b1 : Nat) (r1 : Nat) (n1 : Nat) (x1 : Int64) (I : MI) (J : MJ) (Q : MI → MJ → Prop) : Prop :=
  ∀ x4_1 : Int32, x4_1 = nI n1 → ∃ n : Nat, f_J7_fill_d0a16_L6 b1 r1 n1 x1 x4_1 (fun (I_11 : MI) (J_12 : MJ) => Q I_11 J_12) n (0 : Int32) I J
set_option maxRecDepth 100000 in
set_option maxHeartbeats 4000000 in
theorem c_J7_fill_d0a16 {l : Launch} {E : EV} {ps : List (Nat × Nat)} {b1 r1 n1 : Nat} (hm1 : (b1, r1) ∈ ps) (hc1 : LA E b1 r1 n1) {x1 : Int64} {I : MI} {J : MJ} {Q : MI → MJ → Prop} (hf : f_J7_fill_d0a16 b1 r1 n1 x1 I J Q) : KV l yJ7_fill_d0a16 wsJ7_fill_d0a16 rmJ7_fill_d0a16 E ps [.ref (eA E b1 r1), .long x1] I J Q := by
  refine K_ofV (cc := cJ7_fill_d0a16) (maxL := 5) (by decide +kernel) rfl (Nat.le_of_ble_eq_true rfl) (fun p e s m args below meth c Qm hret S hK hX => ?_)
  have hA : ∀ q, s.heap.size ≤ q → AA E ps s.heap.size q := fun _ h => Or.inr h
  intro H locs ls hP hD hS hl
  unfold f_J7_fill_d0a16 at hf
  refine lv_iconst (v := 0) S.1 S.2.1 dJ7_fill_d0a16_0 rfl ?_
  refine lv_istore_n (lv' := [(3, .int (0 : Int32)), (0, .ref (eA E b1 r1)), (1, .long x1)]) S.1 S.2.1 dJ7_fill_d0a16_1 rfl hl (by decide) rfl (fun ls hl => ?_)
  refine lv_aload_n S.1 S.2.1 dJ7_fill_d0a16_2 rfl (lv_at hl 1 rfl) ?_
  refine R_alenL S.1 S.2.1 hK hP hm1 hc1 dJ7_fill_d0a16_3 ?_
  refine lv_topi (fun x4_1 ex4_1 => ?_)
  have hf := hf x4_1 ex4_1
  refine lv_istore (lv' := [(4, .int x4_1), (3, .int (0 : Int32)), (0, .ref (eA E b1 r1)), (1, .long x1)]) S.1 S.2.1 dJ7_fill_d0a16_4 hl (by decide) rfl (fun ls hl => ?_)
  obtain ⟨n_13, hf⟩ := hf
  have L6 : ∀ (x1_2 : Int64), ∀ (x4_4 : Int32), ∀ (K22 : MI → MJ → Prop), (∀ (I_11 : MI) (J_12 : MJ), K22 I_11 J_12 → Wj p l e (rmJ7_fill_d0a16) s m args below meth c Qm E ps 5 I_11 J_12 22 [] []) → ∀ (n : Nat) (x3_3 : Int32) (I_5 : MI) (J_6 : MJ), f_J7_fill_d0a16_L6 b1 r1 n1 x1_2 x4_4 K22 n x3_3 I_5 J_6 → Wj p l e (rmJ7_fill_d0a16) s m args below meth c Qm E ps 5 I_5 J_6 6 [(0, .ref (eA E b1 r1)), (1, .long x1_2), (3, .int x3_3), (4, .int x4_4)] [] := by
    intro x1_2 x4_4 K22 kx22 n
    induction n with
    | zero => intro x3_3 I_5 J_6 hf; exact hf.elim
    | succ n ih6 =>
      intro x3_3 I_5 J_6 hf
      have hf : f_J7_fill_d0a16_B6 b1 r1 n1 x1_2 x4_4 K22 (f_J7_fill_d0a16_L6 b1 r1 n1 x1_2 x4_4 K22 n) x3_3 I_5 J_6 := hf
      intro H locs ls hP hD hS hl
      unfold f_J7_fill_d0a16_B6 at hf
      refine lv_iload_n S.1 S.2.1 dJ7_fill_d0a16_6 rfl (lv_at hl 2 rfl) ?_
      refine lv_iload S.1 S.2.1 dJ7_fill_d0a16_7 (lv_at hl 3 rfl) ?_
      refine lv_icmp_ge (tgt := 22) S.1 S.2.1 dJ7_fill_d0a16_9 (by decide) (fun h_7 => ?_) (fun h_7 => ?_)
      · have hf := hf.1 h_7
        exact kx22 _ _ hf _ _ _ hP hD hS (lv_sub hl [] rfl)
      · have hf := hf.2 h_7
        refine lv_aload_n S.1 S.2.1 dJ7_fill_d0a16_12 rfl (lv_at hl 0 rfl) ?_
        refine lv_iload_n S.1 S.2.1 dJ7_fill_d0a16_13 rfl (lv_at hl 2 rfl) ?_
        refine lv_lload_n S.1 S.2.1 dJ7_fill_d0a16_14 rfl (lv_at hl 1 rfl) ?_
        obtain ⟨h_8, hf⟩ := hf
        refine nm_o hf (fun J_9 eJ_9 hf => ?_)
        refine R_last S.1 S.2.1 hK hP hD hS hm1 hc1 h_8 dJ7_fill_d0a16_15 eJ_9 (fun H locs hP hD hS => ?_)
        refine nm_o hf (fun x3_10 ex3_10 hf => ?_)
        refine lv_iinc (v := x3_10) (lv' := [(3, .int x3_10), (0, .ref (eA E b1 r1)), (1, .long x1_2), (4, .int x4_4)]) S.1 S.2.1 dJ7_fill_d0a16_16 hl (k := 2) rfl (by rw [ex3_10]; rfl) (by decide) rfl (fun ls hl => ?_)
        refine lv_goto (tgt := 6) S.1 S.2.1 dJ7_fill_d0a16_19 (by decide) ?_
        exact ih6 _ _ _ hf _ _ _ hP hD hS (lv_sub hl [1, 2, 0, 3] rfl)
  refine L6 _ _ _ (fun I_11 J_12 hf H locs ls hP hD hS hl => ?_)  n_13 _ _ _ hf _ _ _ hP hD hS (lv_sub hl [2, 3, 1, 0] rfl)
  exact hret hf hP hD hS dJ7_fill_d0a16_22
abbrev rmJ7_fill_53178 : Room := { frames := 0, cells := 0, slots := 0, locals := 0 }
theorem yk_J7_fill_53178 : yOk yJ7_fill_53178 RJ7 2 := by unfold yOk; decide +kernel
def f_J7_fill_53178_B5 (b1 : Nat) (r1 : Nat) (n1 : Nat) (x1_2 : Int32) (x3_4 : Int32) (K20 : MI → MJ → Prop) (rec5 : Int32 → MI → MJ → Prop) (x2_3 : Int32) (I_5 : MI) (J_6 : MJ) : Prop :=
  ((x3_4 ≤ x2_3 → K20 I_5 J_6) ∧ (¬ x3_4 ≤ x2_3 → (vp_in x2_3 n1 ∧ ∀ I_9 : MI, I_9 = sI I_5 b1 r1 x2_3.toNatClampNeg x1_2 → ∀ x2_10 : Int32, x2_10 = x2_3 + (1 : Int32) → rec5 x2_10 I_9 J_6)))
def f_J7_fill_53178_L5 (b1 : Nat) (r1 : Nat) (n1 : Nat) (x1_2 : Int32) (x3_4 : Int32) (K20 : MI → MJ → Prop) : Nat → Int32 → MI → MJ → Prop
  | 0, _, _, _ => False
  | n + 1, x2_3, I_5, J_6 => f_J7_fill_53178_B5 b1 r1 n1 x1_2 x3_4 K20 (f_J7_fill_53178_L5 b1 r1 n1 x1_2 x3_4 K20 n) x2_3 I_5 J_6
def f_J7_fill_53178 (b1 : Nat) (r1 : Nat) (n1 : Nat) (x1 : Int32) (I : MI) (J : MJ) (Q : MI → MJ → Prop) : Prop :=
  ∀ x3_1 : Int32, x3_1 = nI n1 → ∃ n : Nat, f_J7_fill_53178_L5 b1 r1 n1 x1 x3_1 (fun (I_11 : MI) (J_12 : MJ) => Q I_11 J_12) n (0 : Int32) I J
set_option maxRecDepth 100000 in
set_option maxHeartbeats 4000000 in
theorem c_J7_fill_53178 {l : Launch} {E : EV} {ps : List (Nat × Nat)} {b1 r1 n1 : Nat} (hm1 : (b1, r1) ∈ ps) (hc1 : IA E b1 r1 n1) {x1 : Int32} {I : MI} {J : MJ} {Q : MI → MJ → Prop} (hf : f_J7_fill_53178 b1 r1 n1 x1 I J Q) : KV l yJ7_fill_53178 wsJ7_fill_53178 rmJ7_fill_53178 E ps [.ref (eA E b1 r1), .int x1] I J Q := by
  refine K_ofV (cc := cJ7_fill_53178) (maxL := 4) (by decide +kernel) rfl (Nat.le_of_ble_eq_true rfl) (fun p e s m args below meth c Qm hret S hK hX => ?_)
  have hA : ∀ q, s.heap.size ≤ q → AA E ps s.heap.size q := fun _ h => Or.inr h
  intro H locs ls hP hD hS hl
  unfold f_J7_fill_53178 at hf
  refine lv_iconst (v := 0) S.1 S.2.1 dJ7_fill_53178_0 rfl ?_
  refine lv_istore_n (lv' := [(2, .int (0 : Int32)), (0, .ref (eA E b1 r1)), (1, .int x1)]) S.1 S.2.1 dJ7_fill_53178_1 rfl hl (by decide) rfl (fun ls hl => ?_)
  refine lv_aload_n S.1 S.2.1 dJ7_fill_53178_2 rfl (lv_at hl 1 rfl) ?_
  refine R_alenI S.1 S.2.1 hK hP hm1 hc1 dJ7_fill_53178_3 ?_
  refine lv_topi (fun x3_1 ex3_1 => ?_)
  have hf := hf x3_1 ex3_1
  refine lv_istore_n (lv' := [(3, .int x3_1), (2, .int (0 : Int32)), (0, .ref (eA E b1 r1)), (1, .int x1)]) S.1 S.2.1 dJ7_fill_53178_4 rfl hl (by decide) rfl (fun ls hl => ?_)
  obtain ⟨n_13, hf⟩ := hf
  have L5 : ∀ (x1_2 : Int32), ∀ (x3_4 : Int32), ∀ (K20 : MI → MJ → Prop), (∀ (I_11 : MI) (J_12 : MJ), K20 I_11 J_12 → Wj p l e (rmJ7_fill_53178) s m args below meth c Qm E ps 4 I_11 J_12 20 [] []) → ∀ (n : Nat) (x2_3 : Int32) (I_5 : MI) (J_6 : MJ), f_J7_fill_53178_L5 b1 r1 n1 x1_2 x3_4 K20 n x2_3 I_5 J_6 → Wj p l e (rmJ7_fill_53178) s m args below meth c Qm E ps 4 I_5 J_6 5 [(0, .ref (eA E b1 r1)), (1, .int x1_2), (2, .int x2_3), (3, .int x3_4)] [] := by
    intro x1_2 x3_4 K20 kx20 n
    induction n with
    | zero => intro x2_3 I_5 J_6 hf; exact hf.elim
    | succ n ih5 =>
      intro x2_3 I_5 J_6 hf
      have hf : f_J7_fill_53178_B5 b1 r1 n1 x1_2 x3_4 K20 (f_J7_fill_53178_L5 b1 r1 n1 x1_2 x3_4 K20 n) x2_3 I_5 J_6 := hf
      intro H locs ls hP hD hS hl
      unfold f_J7_fill_53178_B5 at hf
      refine lv_iload_n S.1 S.2.1 dJ7_fill_53178_5 rfl (lv_at hl 2 rfl) ?_
      refine lv_iload_n S.1 S.2.1 dJ7_fill_53178_6 rfl (lv_at hl 3 rfl) ?_
      refine lv_icmp_ge (tgt := 20) S.1 S.2.1 dJ7_fill_53178_7 (by decide) (fun h_7 => ?_) (fun h_7 => ?_)
      · have hf := hf.1 h_7
        exact kx20 _ _ hf _ _ _ hP hD hS (lv_sub hl [] rfl)
      · have hf := hf.2 h_7
        refine lv_aload_n S.1 S.2.1 dJ7_fill_53178_10 rfl (lv_at hl 0 rfl) ?_
        refine lv_iload_n S.1 S.2.1 dJ7_fill_53178_11 rfl (lv_at hl 2 rfl) ?_
        refine lv_iload_n S.1 S.2.1 dJ7_fill_53178_12 rfl (lv_at hl 1 rfl) ?_
        obtain ⟨h_8, hf⟩ := hf
        refine nm_o hf (fun I_9 eI_9 hf => ?_)
        refine R_iast S.1 S.2.1 hK hP hD hS hm1 hc1 h_8 dJ7_fill_53178_13 eI_9 (fun H locs hP hD hS => ?_)
        refine nm_o hf (fun x2_10 ex2_10 hf => ?_)
        refine lv_iinc (v := x2_10) (lv' := [(2, .int x2_10), (0, .ref (eA E b1 r1)), (1, .int x1_2), (3, .int x3_4)]) S.1 S.2.1 dJ7_fill_53178_14 hl (k := 2) rfl (by rw [ex2_10]; rfl) (by decide) rfl (fun ls hl => ?_)
        refine lv_goto (tgt := 5) S.1 S.2.1 dJ7_fill_53178_17 (by decide) ?_
        exact ih5 _ _ _ hf _ _ _ hP hD hS (lv_sub hl [1, 2, 0, 3] rfl)
  refine L5 _ _ _ (fun I_11 J_12 hf H locs ls hP hD hS hl => ?_)  n_13 _ _ _ hf _ _ _ hP hD hS (lv_sub hl [2, 3, 1, 0] rfl)
  exact hret hf hP hD hS dJ7_fill_53178_20
abbrev rmX3_indexOf : Room := { frames := 0, cells := 0, slots := 0, locals := 0 }
theorem yk_X3_indexOf : yOk yX3_indexOf RX3 1 := by unfold yOk; decide +kernel
def f_X3_indexOf (x0 : Int32) (I : MI) (J : MJ) (Q : Int32 → MI → MJ → Prop) : Prop :=
  Q ((-1 : Int32) - x0) I J
set_option maxRecDepth 100000 in
set_option maxHeartbeats 4000000 in
theorem c_X3_indexOf {l : Launch} {E : EV} {ps : List (Nat × Nat)}  {x0 : Int32} {I : MI} {J : MJ} {Q : Int32 → MI → MJ → Prop} (hf : f_X3_indexOf x0 I J Q) : KI l yX3_indexOf wsX3_indexOf rmX3_indexOf E ps [.int x0] I J Q := by
  refine K_ofI (cc := cX3_indexOf) (maxL := 1) (ty := .int) (by decide +kernel) rfl (Nat.le_of_ble_eq_true rfl) (fun p e s m args below meth c Qm hret S hK hX => ?_)
  have hA : ∀ q, s.heap.size ≤ q → AA E ps s.heap.size q := fun _ h => Or.inr h
  intro H locs ls hP hD hS hl
  unfold f_X3_indexOf at hf
  refine lv_iconst (v := (-1)) S.1 S.2.1 dX3_indexOf_0 rfl ?_
  refine lv_iload_n S.1 S.2.1 dX3_indexOf_1 rfl (lv_at hl 0 rfl) ?_
  refine lv_isub S.1 S.2.1 dX3_indexOf_2 ?_
  exact hret hf rfl hP hD hS dX3_indexOf_3
abbrev rmX3_clear : Room := { frames := 0, cells := 0, slots := 0, locals := 0 }
theorem yk_X3_clear : yOk yX3_clear RX3 0 := by unfold yOk; decide +kernel
def f_X3_clear (b : Nat) (I : MI) (J : MJ) (Q : MI → MJ → Prop) : Prop :=
  ∀ I_1 : MI, I_1 = sI I b 2 2 (0 : Int32) → Q I_1 J
set_option maxRecDepth 100000 in
set_option maxHeartbeats 4000000 in
theorem c_X3_clear {l : Launch} {E : EV} {ps : List (Nat × Nat)} {b : Nat} (hB : b < 11) (hM : ∀ r, r < 16 → (b, r) ∈ ps) {I : MI} {J : MJ} {Q : MI → MJ → Prop} (hf : f_X3_clear b I J Q) : KV l yX3_clear wsX3_clear rmX3_clear E ps [.ref (eA E b 2)] I J Q := by
  refine K_ofV (cc := cX3_clear) (maxL := 1) (by decide +kernel) rfl (Nat.le_of_ble_eq_true rfl) (fun p e s m args below meth c Qm hret S hK hX => ?_)
  have hA : ∀ q, s.heap.size ≤ q → AA E ps s.heap.size q := fun _ h => Or.inr h
  have k1 := S.2.2.2.2 (.fieldLink RX3 18 "RhymeRoofs$Rank" "length" "I") (by decide +kernel)
  have iX3 : ∀ w ∈ wsX30, w ∈ wsX3_clear := fun _ h => List.mem_cons_of_mem _ (List.mem_append_right _ h)
  intro H locs ls hP hD hS hl
  unfold f_X3_clear at hf
  refine lv_aload_n S.1 S.2.1 dX3_clear_0 rfl (lv_at hl 0 rfl) ?_
  refine lv_iconst (v := 0) S.1 S.2.1 dX3_clear_1 rfl ?_
  refine nm_o hf (fun I_1 eI_1 hf => ?_)
  refine pfX3_2 S iX3 hK hP hD hS hB (hM 2 (by decide)) k1 dX3_clear_2 eI_1 (fun H locs hP hD hS => ?_)
  exact hret hf hP hD hS dX3_clear_5
abbrev rmX3_add : Room := { frames := 0, cells := 0, slots := 0, locals := 0 }
theorem yk_X3_add : yOk yX3_add RX3 1 := by unfold yOk; decide +kernel
def f_X3_add (b : Nat) (x1 : Int32) (I : MI) (J : MJ) (Q : MI → MJ → Prop) : Prop :=
  (((600 : Int32) ≤ (I b 2 2) → Q I J) ∧ (¬ (600 : Int32) ≤ (I b 2 2) → (vp_in (I b 2 2) 600 ∧ ∀ I_3 : MI, I_3 = sI I b 5 (I b 2 2).toNatClampNeg x1 → ∀ I_4 : MI, I_4 = sI I_3 b 2 2 ((I_3 b 2 2) + (1 : Int32)) → Q I_4 J)))
set_option maxRecDepth 100000 in
set_option maxHeartbeats 4000000 in
theorem c_X3_add {l : Launch} {E : EV} {ps : List (Nat × Nat)} {b : Nat} (hB : b < 11) (hM : ∀ r, r < 16 → (b, r) ∈ ps) {x1 : Int32} {I : MI} {J : MJ} {Q : MI → MJ → Prop} (hf : f_X3_add b x1 I J Q) : KV l yX3_add wsX3_add rmX3_add E ps [.ref (eA E b 2), .int x1] I J Q := by
  refine K_ofV (cc := cX3_add) (maxL := 2) (by decide +kernel) rfl (Nat.le_of_ble_eq_true rfl) (fun p e s m args below meth c Qm hret S hK hX => ?_)
  have hA : ∀ q, s.heap.size ≤ q → AA E ps s.heap.size q := fun _ h => Or.inr h
  have k1 := S.2.2.2.2 (.fieldLink RX3 18 "RhymeRoofs$Rank" "length" "I") (by decide +kernel)
  have iX3 : ∀ w ∈ wsX30, w ∈ wsX3_add := fun _ h => List.mem_cons_of_mem _ (List.mem_append_right _ h)
  have k2 := S.2.2.2.2 (.fieldLink RX3 9 "RhymeRoofs$Rank" "codes" "[I") (by decide +kernel)
  intro H locs ls hP hD hS hl
  unfold f_X3_add at hf
  refine lv_aload_n S.1 S.2.1 dX3_add_0 rfl (lv_at hl 0 rfl) ?_
  refine gfX3_2 S iX3 hK hP hB (hM 2 (by decide)) k1 dX3_add_1 ?_
  refine lv_aload_n S.1 S.2.1 dX3_add_4 rfl (lv_at hl 0 rfl) ?_
  refine gfX3_0 S iX3 hK hP hB (hM 2 (by decide)) k2 dX3_add_5 ?_
  refine R_alenI S.1 S.2.1 hK hP (hM 5 (by decide)) (IAg5 E hB) dX3_add_8 ?_
  refine lv_icmp_ge (tgt := 32) S.1 S.2.1 dX3_add_9 (by decide) (fun h_1 => ?_) (fun h_1 => ?_)
  · have hf := hf.1 h_1
    exact hret hf hP hD hS dX3_add_32
  · have hf := hf.2 h_1
    refine lv_aload_n S.1 S.2.1 dX3_add_12 rfl (lv_at hl 0 rfl) ?_
    refine gfX3_0 S iX3 hK hP hB (hM 2 (by decide)) k2 dX3_add_13 ?_
    refine lv_aload_n S.1 S.2.1 dX3_add_16 rfl (lv_at hl 0 rfl) ?_
    refine gfX3_2 S iX3 hK hP hB (hM 2 (by decide)) k1 dX3_add_17 ?_
    refine lv_iload_n S.1 S.2.1 dX3_add_20 rfl (lv_at hl 1 rfl) ?_
    obtain ⟨h_2, hf⟩ := hf
    refine nm_o hf (fun I_3 eI_3 hf => ?_)
    refine R_iast S.1 S.2.1 hK hP hD hS (hM 5 (by decide)) (IAg5 E hB) h_2 dX3_add_21 eI_3 (fun H locs hP hD hS => ?_)
    refine lv_aload_n S.1 S.2.1 dX3_add_22 rfl (lv_at hl 0 rfl) ?_
    refine lv_dup S.1 S.2.1 dX3_add_23 rfl ?_
    refine gfX3_2 S iX3 hK hP hB (hM 2 (by decide)) k1 dX3_add_24 ?_
    refine lv_iconst (v := 1) S.1 S.2.1 dX3_add_27 rfl ?_
    refine lv_iadd S.1 S.2.1 dX3_add_28 ?_
    refine nm_o hf (fun I_4 eI_4 hf => ?_)
    refine pfX3_2 S iX3 hK hP hD hS hB (hM 2 (by decide)) k1 dX3_add_29 eI_4 (fun H locs hP hD hS => ?_)
    exact hret hf hP hD hS dX3_add_32
abbrev rmX3_copyFrom : Room := { frames := 1, cells := 0, slots := 0, locals := 64 }
theorem yk_X3_copyFrom : yOk yX3_copyFrom RX3 1 := by unfold yOk; decide +kernel
def f_X3_copyFrom (b : Nat) (g : Nat) (I : MI) (J : MJ) (Q : MI → MJ → Prop) : Prop :=
  ((¬ (0 : Int32) < 0 ∧ ¬ (0 : Int32) < 0 ∧ ¬ (I g 2 2) < 0 ∧ (0 : Int32).toNatClampNeg + (I g 2 2).toNatClampNeg ≤ 600 ∧ (0 : Int32).toNatClampNeg + (I g 2 2).toNatClampNeg ≤ 600) ∧ ∀ I_2 : MI, I_2 = rI I b 5 (va_cpy (I g 5) (I b 5) (0 : Int32).toNatClampNeg (0 : Int32).toNatClampNeg (I g 2 2).toNatClampNeg) → ∀ I_3 : MI, I_3 = sI I_2 b 2 2 (I_2 g 2 2) → Q I_3 J)
set_option maxRecDepth 100000 in
set_option maxHeartbeats 4000000 in
theorem c_X3_copyFrom {l : Launch} {E : EV} {ps : List (Nat × Nat)} {b : Nat} (hB : b < 11) (hM : ∀ r, r < 16 → (b, r) ∈ ps) {g : Nat} (hBg : g < 11) (hMg : ∀ r, r < 16 → (g, r) ∈ ps) {I : MI} {J : MJ} {Q : MI → MJ → Prop} (hf : f_X3_copyFrom b g I J Q) : KV l yX3_copyFrom wsX3_copyFrom rmX3_copyFrom E ps [.ref (eA E b 2), .ref (eA E g 2)] I J Q := by
  refine K_ofV (cc := cX3_copyFrom) (maxL := 2) (by decide +kernel) rfl (Nat.le_of_ble_eq_true rfl) (fun p e s m args below meth c Qm hret S hK hX => ?_)
  have hA : ∀ q, s.heap.size ≤ q → AA E ps s.heap.size q := fun _ h => Or.inr h
  have k1 := S.2.2.2.2 (.fieldLink RX3 9 "RhymeRoofs$Rank" "codes" "[I") (by decide +kernel)
  have iX3 : ∀ w ∈ wsX30, w ∈ wsX3_copyFrom := fun _ h => List.mem_cons_of_mem _ (List.mem_append_right _ h)
  have k2 := S.2.2.2.2 (.fieldLink RX3 18 "RhymeRoofs$Rank" "length" "I") (by decide +kernel)
  have k3 := S.2.2.2.2 (.methodLink RX3 26 arraycopyName) (by decide +kernel)
  have k4 := S.2.2.2.2 (.native arraycopyName) (by decide +kernel)
  have k5 := S.2.2.2.2 (.static arraycopyName) (by decide +kernel)
  have k6 := S.2.2.2.2 (.initialized "java/lang/System") (by decide +kernel)
  intro H locs ls hP hD hS hl
  unfold f_X3_copyFrom at hf
  refine lv_aload_n S.1 S.2.1 dX3_copyFrom_0 rfl (lv_at hl 1 rfl) ?_
  refine gfX3_0 S iX3 hK hP hBg (hMg 2 (by decide)) k1 dX3_copyFrom_1 ?_
  refine lv_iconst (v := 0) S.1 S.2.1 dX3_copyFrom_4 rfl ?_
  refine lv_aload_n S.1 S.2.1 dX3_copyFrom_5 rfl (lv_at hl 0 rfl) ?_
  refine gfX3_0 S iX3 hK hP hB (hM 2 (by decide)) k1 dX3_copyFrom_6 ?_
  refine lv_iconst (v := 0) S.1 S.2.1 dX3_copyFrom_9 rfl ?_
  refine lv_aload_n S.1 S.2.1 dX3_copyFrom_10 rfl (lv_at hl 1 rfl) ?_
  refine gfX3_2 S iX3 hK hP hBg (hMg 2 (by decide)) k2 dX3_copyFrom_11 ?_
  obtain ⟨h_1, hf⟩ := hf
  refine nm_o hf (fun I_2 eI_2 hf => ?_)
  refine R_cpyI S (hl.1) k3 k4 k5 k6 hK hP hD hS (hMg 5 (by decide)) (IAg5 E hBg) (hM 5 (by decide)) (IAg5 E hB) h_1 (Nat.le_of_ble_eq_true rfl) (Nat.le_of_ble_eq_true rfl) dX3_copyFrom_14 eI_2 (fun H locs hP hD hS => ?_)
  refine lv_aload_n S.1 S.2.1 dX3_copyFrom_17 rfl (lv_at hl 0 rfl) ?_
  refine lv_aload_n S.1 S.2.1 dX3_copyFrom_18 rfl (lv_at hl 1 rfl) ?_
  refine gfX3_2 S iX3 hK hP hBg (hMg 2 (by decide)) k2 dX3_copyFrom_19 ?_
  refine nm_o hf (fun I_3 eI_3 hf => ?_)
  refine pfX3_2 S iX3 hK hP hD hS hB (hM 2 (by decide)) k2 dX3_copyFrom_22 eI_3 (fun H locs hP hD hS => ?_)
  exact hret hf hP hD hS dX3_copyFrom_25
abbrev rmX3_result : Room := { frames := 0, cells := 0, slots := 0, locals := 0 }
theorem yk_X3_result : yOk yX3_result RX3 3 := by unfold yOk; decide +kernel
def f_X3_result_J71 (Q : Int32 → MI → MJ → Prop) (x5_3 : Int64) (I_4 : MI) (J_5 : MJ) : Prop :=
  (((1000000 : Int64) < x5_3 → Q ((1000000 : Int64).toInt32) I_4 J_5) ∧ (¬ (1000000 : Int64) < x5_3 → ((x5_3 < (-1000000 : Int64) → Q ((-1000000 : Int64).toInt32) I_4 J_5) ∧ (¬ x5_3 < (-1000000 : Int64) → Q (x5_3.toInt32) I_4 J_5))))
def f_X3_result_J69 (Q : Int32 → MI → MJ → Prop) (s_12 : Int64) (I_13 : MI) (J_14 : MJ) : Prop :=
  f_X3_result_J71 Q s_12 I_13 J_14
def f_X3_result (x0 : Int32) (x1 : Int64) (x3 : Int64) (I : MI) (J : MJ) (Q : Int32 → MI → MJ → Prop) : Prop :=
  ((x0 = (-9 : Int32) → ∀ x5_2 : Int64, x5_2 = (x1 * x3) → f_X3_result_J71 Q x5_2 I J) ∧ (¬ x0 = (-9 : Int32) → ((x0 = (-8 : Int32) → ∀ x5_8 : Int64, x5_8 = (x1 - x3) → f_X3_result_J71 Q x5_8 I J) ∧ (¬ x0 = (-8 : Int32) → ((x0 = (-7 : Int32) → ∀ x5_9 : Int64, x5_9 = (x1 + x3) → f_X3_result_J71 Q x5_9 I J) ∧ (¬ x0 = (-7 : Int32) → ((x3 = (0 : Int64) → f_X3_result_J69 Q (0 : Int64) I J) ∧ (¬ x3 = (0 : Int64) → (¬ x3 = 0 ∧ f_X3_result_J69 Q (x1 / x3) I J)))))))))
set_option maxRecDepth 100000 in
set_option maxHeartbeats 4000000 in
theorem c_X3_result {l : Launch} {E : EV} {ps : List (Nat × Nat)}  {x0 : Int32} {x1 : Int64} {x3 : Int64} {I : MI} {J : MJ} {Q : Int32 → MI → MJ → Prop} (hf : f_X3_result x0 x1 x3 I J Q) : KI l yX3_result wsX3_result rmX3_result E ps [.int x0, .long x1, .long x3] I J Q := by
  refine K_ofI (cc := cX3_result) (maxL := 7) (ty := .int) (by decide +kernel) rfl (Nat.le_of_ble_eq_true rfl) (fun p e s m args below meth c Qm hret S hK hX => ?_)
  have hA : ∀ q, s.heap.size ≤ q → AA E ps s.heap.size q := fun _ h => Or.inr h
  have k1 := S.2.2.2.2 (.constantLong RX3 40 (1000000)) (by decide +kernel)
  have k2 := S.2.2.2.2 (.constantLong RX3 42 (-1000000)) (by decide +kernel)
  have jn71 : ∀ (x5_3 : Int64) (I_4 : MI) (J_5 : MJ), f_X3_result_J71 Q x5_3 I_4 J_5 → Wj p l e (rmX3_result) s m args below meth c Qm E ps 7 I_4 J_5 71 [(5, .long x5_3)] [] := by
    intro x5_3 I_4 J_5 hf H locs ls hP hD hS hl
    unfold f_X3_result_J71 at hf
    refine lv_lload S.1 S.2.1 dX3_result_71 (lv_at hl 0 rfl) ?_
    refine lv_ldc2 (v := 1000000) S.1 S.2.1 S.2.2.2.1 k1 dX3_result_73 ?_
    refine W.lcmp S.1 S.2.1 dX3_result_76 ?_
    refine lv_if_le (tgt := 86) S.1 S.2.1 dX3_result_77 (by decide) (fun h_6 => ?_) (fun h_6 => ?_)
    · have hf := hf.2 ((lg_lt0 _ _).mp h_6)
      refine lv_lload S.1 S.2.1 dX3_result_86 (lv_at hl 0 rfl) ?_
      refine lv_ldc2 (v := (-1000000)) S.1 S.2.1 S.2.2.2.1 k2 dX3_result_88 ?_
      refine W.lcmp S.1 S.2.1 dX3_result_91 ?_
      refine lv_if_ge (tgt := 101) S.1 S.2.1 dX3_result_92 (by decide) (fun h_7 => ?_) (fun h_7 => ?_)
      · have hf := hf.2 ((lg_ge0 _ _).mp h_7)
        refine lv_lload S.1 S.2.1 dX3_result_101 (lv_at hl 0 rfl) ?_
        refine lv_l2i S.1 S.2.1 dX3_result_103 rfl ?_
        exact hret hf rfl hP hD hS dX3_result_104
      · have hf := hf.1 (Classical.byContradiction (fun q => h_7 ((lg_ge0 _ _).mpr q)))
        refine lv_ldc2 (v := (-1000000)) S.1 S.2.1 S.2.2.2.1 k2 dX3_result_95 ?_
        refine lv_goto (tgt := 103) S.1 S.2.1 dX3_result_98 (by decide) ?_
        refine lv_l2i S.1 S.2.1 dX3_result_103 rfl ?_
        exact hret hf rfl hP hD hS dX3_result_104
    · have hf := hf.1 (Classical.byContradiction (fun q => h_6 ((lg_lt0 _ _).mpr q)))
      refine lv_ldc2 (v := 1000000) S.1 S.2.1 S.2.2.2.1 k1 dX3_result_80 ?_
      refine lv_goto (tgt := 103) S.1 S.2.1 dX3_result_83 (by decide) ?_
      refine lv_l2i S.1 S.2.1 dX3_result_103 rfl ?_
      exact hret hf rfl hP hD hS dX3_result_104
  have jn69 : ∀ (s_12 : Int64) (I_13 : MI) (J_14 : MJ), f_X3_result_J69 Q s_12 I_13 J_14 → Wj p l e (rmX3_result) s m args below meth c Qm E ps 7 I_13 J_14 69 [] [.long s_12] := by
    intro s_12 I_13 J_14 hf H locs ls hP hD hS hl
    unfold f_X3_result_J69 at hf
    refine lv_lstore (lv' := [(5, .long s_12)]) S.1 S.2.1 dX3_result_69 hl (by decide) rfl (fun ls hl => ?_)
    exact jn71 _ _ _ hf _ _ _ hP hD hS (lv_sub hl [0] rfl)
  intro H locs ls hP hD hS hl
  unfold f_X3_result at hf
  refine lv_lconst (v := 0) S.1 S.2.1 dX3_result_0 rfl ?_
  refine lv_lstore (lv' := [(5, .long (0 : Int64)), (0, .int x0), (1, .long x1), (3, .long x3)]) S.1 S.2.1 dX3_result_1 hl (by decide) rfl (fun ls hl => ?_)
  refine lv_iload_n S.1 S.2.1 dX3_result_3 rfl (lv_at hl 1 rfl) ?_
  refine Classical.byCases (p := x0 = (-9 : Int32)) (fun h_1 => ?_) (fun h_1_0 => ?_)
  · have hf := hf.1 h_1
    refine R_swIn (tgt := 48) (off := 44) S.1 S.2.1 dX3_result_4 h_1 (by decide) (by decide) ?_
    refine lv_lload_n S.1 S.2.1 dX3_result_48 rfl (lv_at hl 2 rfl) ?_
    refine lv_lload_n S.1 S.2.1 dX3_result_49 rfl (lv_at hl 3 rfl) ?_
    refine lv_lmul S.1 S.2.1 dX3_result_50 ?_
    refine lv_topl (fun x5_2 ex5_2 => ?_)
    have hf := hf x5_2 ex5_2
    refine lv_lstore (lv' := [(5, .long x5_2), (0, .int x0), (1, .long x1), (3, .long x3)]) S.1 S.2.1 dX3_result_51 hl (by decide) rfl (fun ls hl => ?_)
    refine lv_goto (tgt := 71) S.1 S.2.1 dX3_result_53 (by decide) ?_
    exact jn71 _ _ _ hf _ _ _ hP hD hS (lv_sub hl [0] rfl)
  have hf := hf.2 h_1_0
  refine Classical.byCases (p := x0 = (-8 : Int32)) (fun h_1 => ?_) (fun h_1_1 => ?_)
  · have hf := hf.1 h_1
    refine R_swIn (tgt := 40) (off := 36) S.1 S.2.1 dX3_result_4 h_1 (by decide) (by decide) ?_
    refine lv_lload_n S.1 S.2.1 dX3_result_40 rfl (lv_at hl 2 rfl) ?_
    refine lv_lload_n S.1 S.2.1 dX3_result_41 rfl (lv_at hl 3 rfl) ?_
    refine lv_lsub S.1 S.2.1 dX3_result_42 ?_
    refine lv_topl (fun x5_8 ex5_8 => ?_)
    have hf := hf x5_8 ex5_8
    refine lv_lstore (lv' := [(5, .long x5_8), (0, .int x0), (1, .long x1), (3, .long x3)]) S.1 S.2.1 dX3_result_43 hl (by decide) rfl (fun ls hl => ?_)
    refine lv_goto (tgt := 71) S.1 S.2.1 dX3_result_45 (by decide) ?_
    exact jn71 _ _ _ hf _ _ _ hP hD hS (lv_sub hl [0] rfl)
  have hf := hf.2 h_1_1
  refine Classical.byCases (p := x0 = (-7 : Int32)) (fun h_1 => ?_) (fun h_1_2 => ?_)
  · have hf := hf.1 h_1
    refine R_swIn (tgt := 32) (off := 28) S.1 S.2.1 dX3_result_4 h_1 (by decide) (by decide) ?_
    refine lv_lload_n S.1 S.2.1 dX3_result_32 rfl (lv_at hl 2 rfl) ?_
    refine lv_lload_n S.1 S.2.1 dX3_result_33 rfl (lv_at hl 3 rfl) ?_
    refine lv_ladd S.1 S.2.1 dX3_result_34 ?_
    refine lv_topl (fun x5_9 ex5_9 => ?_)
    have hf := hf x5_9 ex5_9
    refine lv_lstore (lv' := [(5, .long x5_9), (0, .int x0), (1, .long x1), (3, .long x3)]) S.1 S.2.1 dX3_result_35 hl (by decide) rfl (fun ls hl => ?_)
    refine lv_goto (tgt := 71) S.1 S.2.1 dX3_result_37 (by decide) ?_
    exact jn71 _ _ _ hf _ _ _ hP hD hS (lv_sub hl [0] rfl)
  have hf := hf.2 h_1_2
  refine lv_tableOut (tgt := 56) S.1 S.2.1 dX3_result_4 (by have q0 := ne_I (z := -9) h_1_0 (by decide); have q1 := ne_I (z := -8) h_1_1 (by decide); have q2 := ne_I (z := -7) h_1_2 (by decide); omega) (by decide) ?_
  refine lv_lload_n S.1 S.2.1 dX3_result_56 rfl (lv_at hl 3 rfl) ?_
  refine lv_lconst (v := 0) S.1 S.2.1 dX3_result_57 rfl ?_
  refine W.lcmp S.1 S.2.1 dX3_result_58 ?_
  refine lv_if_ne (tgt := 66) S.1 S.2.1 dX3_result_59 (by decide) (fun h_10 => ?_) (fun h_10 => ?_)
  · have hf := hf.2 (fun q => h_10 ((lg_eq0 _ _).mpr q))
    refine lv_lload_n S.1 S.2.1 dX3_result_66 rfl (lv_at hl 2 rfl) ?_
    refine lv_lload_n S.1 S.2.1 dX3_result_67 rfl (lv_at hl 3 rfl) ?_
    obtain ⟨h_11, hf⟩ := hf
    refine lv_ldiv S.1 S.2.1 dX3_result_68 h_11 ?_
    exact jn69 _ _ _ hf _ _ _ hP hD hS (lv_sub hl [] rfl)
  · have hf := hf.1 ((lg_eq0 _ _).mp h_10)
    refine lv_lconst (v := 0) S.1 S.2.1 dX3_result_62 rfl ?_
    refine lv_goto (tgt := 69) S.1 S.2.1 dX3_result_63 (by decide) ?_
    exact jn69 _ _ _ hf _ _ _ hP hD hS (lv_sub hl [] rfl)
abbrev rmX4_copyFrom : Room := { frames := 2, cells := 0, slots := 0, locals := 85 }
theorem yk_X4_copyFrom : yOk yX4_copyFrom RX4 1 := by unfold yOk; decide +kernel
def f_X4_copyFrom (b : Nat) (g : Nat) (I : MI) (J : MJ) (Q : MI → MJ → Prop) : Prop :=
  ((¬ (0 : Int32) < 0 ∧ ¬ (0 : Int32) < 0 ∧ ¬ (6 : Int32) < 0 ∧ (0 : Int32).toNatClampNeg + (6 : Int32).toNatClampNeg ≤ 6 ∧ (0 : Int32).toNatClampNeg + (6 : Int32).toNatClampNeg ≤ 6) ∧ ∀ I_2 : MI, I_2 = rI I b 3 (va_cpy (I g 3) (I b 3) (0 : Int32).toNatClampNeg (0 : Int32).toNatClampNeg (6 : Int32).toNatClampNeg) → ((¬ (0 : Int32) < 0 ∧ ¬ (0 : Int32) < 0 ∧ ¬ (32 : Int32) < 0 ∧ (0 : Int32).toNatClampNeg + (32 : Int32).toNatClampNeg ≤ 32 ∧ (0 : Int32).toNatClampNeg + (32 : Int32).toNatClampNeg ≤ 32) ∧ ∀ I_4 : MI, I_4 = rI I_2 b 4 (va_cpy (I_2 g 4) (I_2 b 4) (0 : Int32).toNatClampNeg (0 : Int32).toNatClampNeg (32 : Int32).toNatClampNeg) → f_X3_copyFrom b g I_4 J (fun (I_5 : MI) (J_6 : MJ) => ∀ I_7 : MI, I_7 = sI I_5 b 1 3 (I_5 g 1 3) → ∀ I_8 : MI, I_8 = sI I_7 b 1 4 (I_7 g 1 4) → ∀ I_9 : MI, I_9 = sI I_8 b 1 5 (I_8 g 1 5) → ∀ I_10 : MI, I_10 = sI I_9 b 1 6 (I_9 g 1 6) → ∀ I_11 : MI, I_11 = sI I_10 b 1 7 (I_10 g 1 7) → Q I_11 J_6)))
set_option maxRecDepth 100000 in
set_option maxHeartbeats 4000000 in
theorem c_X4_copyFrom {l : Launch} {E : EV} {ps : List (Nat × Nat)} {b : Nat} (hB : b < 11) (hM : ∀ r, r < 16 → (b, r) ∈ ps) {g : Nat} (hBg : g < 11) (hMg : ∀ r, r < 16 → (g, r) ∈ ps) {I : MI} {J : MJ} {Q : MI → MJ → Prop} (hf : f_X4_copyFrom b g I J Q) : KV l yX4_copyFrom wsX4_copyFrom rmX4_copyFrom E ps [.ref (eA E b 1), .ref (eA E g 1)] I J Q := by
  refine K_ofV (cc := cX4_copyFrom) (maxL := 2) (by decide +kernel) rfl (Nat.le_of_ble_eq_true rfl) (fun p e s m args below meth c Qm hret S hK hX => ?_)
  have hA : ∀ q, s.heap.size ≤ q → AA E ps s.heap.size q := fun _ h => Or.inr h
  have k1 := S.2.2.2.2 (.fieldLink RX4 9 "RhymeRoofs$Rules" "tiles" "[I") (by decide +kernel)
  have iX4 : ∀ w ∈ wsX40, w ∈ wsX4_copyFrom := fun _ h => List.mem_cons_of_mem _ (List.mem_append_left _ (List.mem_append_right _ h))
  have k2 := S.2.2.2.2 (.methodLink RX4 52 arraycopyName) (by decide +kernel)
  have k3 := S.2.2.2.2 (.native arraycopyName) (by decide +kernel)
  have k4 := S.2.2.2.2 (.static arraycopyName) (by decide +kernel)
  have k5 := S.2.2.2.2 (.initialized "java/lang/System") (by decide +kernel)
  have k6 := S.2.2.2.2 (.fieldLink RX4 17 "RhymeRoofs$Rules" "groups" "[I") (by decide +kernel)
  have k7 := S.2.2.2.2 (.fieldLink RX4 23 "RhymeRoofs$Rules" "rank" "LRhymeRoofs$Rank;") (by decide +kernel)
  have k8 := S.2.2.2.2 (.fieldLink RX4 36 "RhymeRoofs$Rules" "rows" "I") (by decide +kernel)
  have k9 := S.2.2.2.2 (.fieldLink RX4 40 "RhymeRoofs$Rules" "players" "I") (by decide +kernel)
  have k10 := S.2.2.2.2 (.fieldLink RX4 43 "RhymeRoofs$Rules" "need" "I") (by decide +kernel)
  have k11 := S.2.2.2.2 (.fieldLink RX4 46 "RhymeRoofs$Rules" "bonus" "I") (by decide +kernel)
  have k12 := S.2.2.2.2 (.fieldLink RX4 49 "RhymeRoofs$Rules" "crown" "I") (by decide +kernel)
  intro H locs ls hP hD hS hl
  unfold f_X4_copyFrom at hf
  refine lv_aload_n S.1 S.2.1 dX4_copyFrom_0 rfl (lv_at hl 1 rfl) ?_
  refine gfX4_0 S iX4 hK hP hBg (hMg 1 (by decide)) k1 dX4_copyFrom_1 ?_
  refine lv_iconst (v := 0) S.1 S.2.1 dX4_copyFrom_4 rfl ?_
  refine lv_aload_n S.1 S.2.1 dX4_copyFrom_5 rfl (lv_at hl 0 rfl) ?_
  refine gfX4_0 S iX4 hK hP hB (hM 1 (by decide)) k1 dX4_copyFrom_6 ?_
  refine lv_iconst (v := 0) S.1 S.2.1 dX4_copyFrom_9 rfl ?_
  refine lv_aload_n S.1 S.2.1 dX4_copyFrom_10 rfl (lv_at hl 0 rfl) ?_
  refine gfX4_0 S iX4 hK hP hB (hM 1 (by decide)) k1 dX4_copyFrom_11 ?_
  refine R_alenI S.1 S.2.1 hK hP (hM 3 (by decide)) (IAg3 E hB) dX4_copyFrom_14 ?_
  obtain ⟨h_1, hf⟩ := hf
  refine nm_o hf (fun I_2 eI_2 hf => ?_)
  refine R_cpyI S (hl.1) k2 k3 k4 k5 hK hP hD hS (hMg 3 (by decide)) (IAg3 E hBg) (hM 3 (by decide)) (IAg3 E hB) h_1 (Nat.le_of_ble_eq_true rfl) (Nat.le_of_ble_eq_true rfl) dX4_copyFrom_15 eI_2 (fun H locs hP hD hS => ?_)
  refine lv_aload_n S.1 S.2.1 dX4_copyFrom_18 rfl (lv_at hl 1 rfl) ?_
  refine gfX4_1 S iX4 hK hP hBg (hMg 1 (by decide)) k6 dX4_copyFrom_19 ?_
  refine lv_iconst (v := 0) S.1 S.2.1 dX4_copyFrom_22 rfl ?_
  refine lv_aload_n S.1 S.2.1 dX4_copyFrom_23 rfl (lv_at hl 0 rfl) ?_
  refine gfX4_1 S iX4 hK hP hB (hM 1 (by decide)) k6 dX4_copyFrom_24 ?_
  refine lv_iconst (v := 0) S.1 S.2.1 dX4_copyFrom_27 rfl ?_
  refine lv_aload_n S.1 S.2.1 dX4_copyFrom_28 rfl (lv_at hl 0 rfl) ?_
  refine gfX4_1 S iX4 hK hP hB (hM 1 (by decide)) k6 dX4_copyFrom_29 ?_
  refine R_alenI S.1 S.2.1 hK hP (hM 4 (by decide)) (IAg4 E hB) dX4_copyFrom_32 ?_
  obtain ⟨h_3, hf⟩ := hf
  refine nm_o hf (fun I_4 eI_4 hf => ?_)
  refine R_cpyI S (hl.1) k2 k3 k4 k5 hK hP hD hS (hMg 4 (by decide)) (IAg4 E hBg) (hM 4 (by decide)) (IAg4 E hB) h_3 (Nat.le_of_ble_eq_true rfl) (Nat.le_of_ble_eq_true rfl) dX4_copyFrom_33 eI_4 (fun H locs hP hD hS => ?_)
  refine lv_aload_n S.1 S.2.1 dX4_copyFrom_36 rfl (lv_at hl 0 rfl) ?_
  refine gfX4_2 S iX4 hK hP hB (hM 1 (by decide)) k7 dX4_copyFrom_37 ?_
  refine lv_aload_n S.1 S.2.1 dX4_copyFrom_40 rfl (lv_at hl 1 rfl) ?_
  refine gfX4_2 S iX4 hK hP hBg (hMg 1 (by decide)) k7 dX4_copyFrom_41 ?_
  refine R_cVv (As := [.ref (eA E g 2)]) (rest := []) S (c_X3_copyFrom (hB := hB) (hM := hM) (hBg := hBg) (hMg := hMg) hf) gX4_copyFrom_X3_copyFrom rfl yk_X3_copyFrom ⟨⟨Nat.le_of_ble_eq_true rfl, Nat.le_of_ble_eq_true rfl⟩, rfl, rfl⟩ hK hP hD hS hX hA (hM 2 (by decide)) (cF_g E hB _ _ 2) rfl rfl hl.1 rfl (Nat.le_of_ble_eq_true rfl) ⟨Nat.zero_le _, Nat.zero_le _⟩ dX4_copyFrom_44 (fun I_5 J_6 H locs hf hP hD hS => ?_)
  refine lv_aload_n S.1 S.2.1 dX4_copyFrom_47 rfl (lv_at hl 0 rfl) ?_
  refine lv_aload_n S.1 S.2.1 dX4_copyFrom_48 rfl (lv_at hl 1 rfl) ?_
  refine gfX4_3 S iX4 hK hP hBg (hMg 1 (by decide)) k8 dX4_copyFrom_49 ?_
  refine nm_o hf (fun I_7 eI_7 hf => ?_)
  refine pfX4_3 S iX4 hK hP hD hS hB (hM 1 (by decide)) k8 dX4_copyFrom_52 eI_7 (fun H locs hP hD hS => ?_)
  refine lv_aload_n S.1 S.2.1 dX4_copyFrom_55 rfl (lv_at hl 0 rfl) ?_
  refine lv_aload_n S.1 S.2.1 dX4_copyFrom_56 rfl (lv_at hl 1 rfl) ?_
  refine gfX4_4 S iX4 hK hP hBg (hMg 1 (by decide)) k9 dX4_copyFrom_57 ?_
  refine nm_o hf (fun I_8 eI_8 hf => ?_)
  refine pfX4_4 S iX4 hK hP hD hS hB (hM 1 (by decide)) k9 dX4_copyFrom_60 eI_8 (fun H locs hP hD hS => ?_)
  refine lv_aload_n S.1 S.2.1 dX4_copyFrom_63 rfl (lv_at hl 0 rfl) ?_
  refine lv_aload_n S.1 S.2.1 dX4_copyFrom_64 rfl (lv_at hl 1 rfl) ?_
  refine gfX4_5 S iX4 hK hP hBg (hMg 1 (by decide)) k10 dX4_copyFrom_65 ?_
  refine nm_o hf (fun I_9 eI_9 hf => ?_)
  refine pfX4_5 S iX4 hK hP hD hS hB (hM 1 (by decide)) k10 dX4_copyFrom_68 eI_9 (fun H locs hP hD hS => ?_)
  refine lv_aload_n S.1 S.2.1 dX4_copyFrom_71 rfl (lv_at hl 0 rfl) ?_
  refine lv_aload_n S.1 S.2.1 dX4_copyFrom_72 rfl (lv_at hl 1 rfl) ?_
  refine gfX4_6 S iX4 hK hP hBg (hMg 1 (by decide)) k11 dX4_copyFrom_73 ?_
  refine nm_o hf (fun I_10 eI_10 hf => ?_)
  refine pfX4_6 S iX4 hK hP hD hS hB (hM 1 (by decide)) k11 dX4_copyFrom_76 eI_10 (fun H locs hP hD hS => ?_)
  refine lv_aload_n S.1 S.2.1 dX4_copyFrom_79 rfl (lv_at hl 0 rfl) ?_
  refine lv_aload_n S.1 S.2.1 dX4_copyFrom_80 rfl (lv_at hl 1 rfl) ?_
  refine gfX4_7 S iX4 hK hP hBg (hMg 1 (by decide)) k12 dX4_copyFrom_81 ?_
  refine nm_o hf (fun I_11 eI_11 hf => ?_)
  refine pfX4_7 S iX4 hK hP hD hS hB (hM 1 (by decide)) k12 dX4_copyFrom_84 eI_11 (fun H locs hP hD hS => ?_)
  exact hret hf hP hD hS dX4_copyFrom_87
abbrev rmX4_rhymeOf : Room := { frames := 0, cells := 0, slots := 0, locals := 0 }
theorem yk_X4_rhymeOf : yOk yX4_rhymeOf RX4 2 := by unfold yOk; decide +kernel
def f_X4_rhymeOf_B9 (b : Nat) (K83 : Int32 → MI → MJ → Prop) (rec9 : Int64 → Int64 → Int32 → MI → MJ → Prop) (x5_1 : Int64) (x7_2 : Int64) (x9_3 : Int32) (I_4 : MI) (J_5 : MJ) : Prop :=
  (((8 : Int32) ≤ x9_3 → K83 x9_3 I_4 J_5) ∧ (¬ (8 : Int32) ≤ x9_3 → (((x5_1 &&& (31 : Int64)) = (0 : Int64) → K83 x9_3 I_4 J_5) ∧ (¬ (x5_1 &&& (31 : Int64)) = (0 : Int64) → (((x7_2 &&& (31 : Int64)) = (0 : Int64) → K83 x9_3 I_4 J_5) ∧ (¬ (x7_2 &&& (31 : Int64)) = (0 : Int64) → (vp_in ((x5_1 &&& (31 : Int64)).toInt32) 32 ∧ (vp_in ((x7_2 &&& (31 : Int64)).toInt32) 32 ∧ (((I_4 b 4 ((x5_1 &&& (31 : Int64)).toInt32).toNatClampNeg) = (I_4 b 4 ((x7_2 &&& (31 : Int64)).toInt32).toNatClampNeg) → ∀ x9_12 : Int32, x9_12 = x9_3 + (1 : Int32) → ∀ x5_13 : Int64, x5_13 = ((x5_1.toUInt64 >>> ((5 : Int32).toInt64.toUInt64 &&& Int64.toUInt64 63)).toInt64) → ∀ x7_14 : Int64, x7_14 = ((x7_2.toUInt64 >>> ((5 : Int32).toInt64.toUInt64 &&& Int64.toUInt64 63)).toInt64) → rec9 x5_13 x7_14 x9_12 I_4 J_5) ∧ (¬ (I_4 b 4 ((x5_1 &&& (31 : Int64)).toInt32).toNatClampNeg) = (I_4 b 4 ((x7_2 &&& (31 : Int64)).toInt32).toNatClampNeg) → K83 x9_3 I_4 J_5))))))))))
def f_X4_rhymeOf_L9 (b : Nat) (K83 : Int32 → MI → MJ → Prop) : Nat → Int64 → Int64 → Int32 → MI → MJ → Prop
  | 0, _, _, _, _, _ => False
  | n + 1, x5_1, x7_2, x9_3, I_4, J_5 => f_X4_rhymeOf_B9 b K83 (f_X4_rhymeOf_L9 b K83 n) x5_1 x7_2 x9_3 I_4 J_5
def f_X4_rhymeOf (b : Nat) (x1 : Int64) (x3 : Int64) (I : MI) (J : MJ) (Q : Int32 → MI → MJ → Prop) : Prop :=
  ∃ n : Nat, f_X4_rhymeOf_L9 b (fun (x9_15 : Int32) (I_16 : MI) (J_17 : MJ) => Q x9_15 I_16 J_17) n x1 x3 (0 : Int32) I J
set_option maxRecDepth 100000 in
set_option maxHeartbeats 4000000 in
theorem c_X4_rhymeOf {l : Launch} {E : EV} {ps : List (Nat × Nat)} {b : Nat} (hB : b < 11) (hM : ∀ r, r < 16 → (b, r) ∈ ps) {x1 : Int64} {x3 : Int64} {I : MI} {J : MJ} {Q : Int32 → MI → MJ → Prop} (hf : f_X4_rhymeOf b x1 x3 I J Q) : KI l yX4_rhymeOf wsX4_rhymeOf rmX4_rhymeOf E ps [.ref (eA E b 1), .long x1, .long x3] I J Q := by
  refine K_ofI (cc := cX4_rhymeOf) (maxL := 10) (ty := .int) (by decide +kernel) rfl (Nat.le_of_ble_eq_true rfl) (fun p e s m args below meth c Qm hret S hK hX => ?_)
  have hA : ∀ q, s.heap.size ≤ q → AA E ps s.heap.size q := fun _ h => Or.inr h
  have k1 := S.2.2.2.2 (.constantLong RX4 62 (31)) (by decide +kernel)
  have k2 := S.2.2.2.2 (.fieldLink RX4 17 "RhymeRoofs$Rules" "groups" "[I") (by decide +kernel)
  have iX4 : ∀ w ∈ wsX40, w ∈ wsX4_rhymeOf := fun _ h => List.mem_cons_of_mem _ (List.mem_append_right _ h)
  intro H locs ls hP hD hS hl
  unfold f_X4_rhymeOf at hf
  refine lv_lload_n S.1 S.2.1 dX4_rhymeOf_0 rfl (lv_at hl 1 rfl) ?_
  refine lv_lstore (lv' := [(5, .long x1), (0, .ref (eA E b 1)), (1, .long x1), (3, .long x3)]) S.1 S.2.1 dX4_rhymeOf_1 hl (by decide) rfl (fun ls hl => ?_)
  refine lv_lload_n S.1 S.2.1 dX4_rhymeOf_3 rfl (lv_at hl 3 rfl) ?_
  refine lv_lstore (lv' := [(7, .long x3), (5, .long x1), (0, .ref (eA E b 1)), (1, .long x1), (3, .long x3)]) S.1 S.2.1 dX4_rhymeOf_4 hl (by decide) rfl (fun ls hl => ?_)
  refine lv_iconst (v := 0) S.1 S.2.1 dX4_rhymeOf_6 rfl ?_
  refine lv_istore (lv' := [(9, .int (0 : Int32)), (7, .long x3), (5, .long x1), (0, .ref (eA E b 1)), (1, .long x1), (3, .long x3)]) S.1 S.2.1 dX4_rhymeOf_7 hl (by decide) rfl (fun ls hl => ?_)
  obtain ⟨n_18, hf⟩ := hf
  have L9 : ∀ (K83 : Int32 → MI → MJ → Prop), (∀ (x9_15 : Int32) (I_16 : MI) (J_17 : MJ), K83 x9_15 I_16 J_17 → Wj p l e (rmX4_rhymeOf) s m args below meth c Qm E ps 10 I_16 J_17 83 [(9, .int x9_15)] []) → ∀ (n : Nat) (x5_1 : Int64) (x7_2 : Int64) (x9_3 : Int32) (I_4 : MI) (J_5 : MJ), f_X4_rhymeOf_L9 b K83 n x5_1 x7_2 x9_3 I_4 J_5 → Wj p l e (rmX4_rhymeOf) s m args below meth c Qm E ps 10 I_4 J_5 9 [(0, .ref (eA E b 1)), (5, .long x5_1), (7, .long x7_2), (9, .int x9_3)] [] := by
    intro K83 kx83 n
    induction n with
    | zero => intro x5_1 x7_2 x9_3 I_4 J_5 hf; exact hf.elim
    | succ n ih9 =>
      intro x5_1 x7_2 x9_3 I_4 J_5 hf
      have hf : f_X4_rhymeOf_B9 b K83 (f_X4_rhymeOf_L9 b K83 n) x5_1 x7_2 x9_3 I_4 J_5 := hf
      intro H locs ls hP hD hS hl
      unfold f_X4_rhymeOf_B9 at hf
      refine lv_iload S.1 S.2.1 dX4_rhymeOf_9 (lv_at hl 3 rfl) ?_
      refine lv_bipush (v := 8) S.1 S.2.1 dX4_rhymeOf_11 rfl ?_
      refine lv_icmp_ge (tgt := 83) S.1 S.2.1 dX4_rhymeOf_13 (by decide) (fun h_6 => ?_) (fun h_6 => ?_)
      · have hf := hf.1 h_6
        exact kx83 _ _ _ hf _ _ _ hP hD hS (lv_sub hl [3] rfl)
      · have hf := hf.2 h_6
        refine lv_lload S.1 S.2.1 dX4_rhymeOf_16 (lv_at hl 1 rfl) ?_
        refine lv_ldc2 (v := 31) S.1 S.2.1 S.2.2.2.1 k1 dX4_rhymeOf_18 ?_
        refine lv_land S.1 S.2.1 dX4_rhymeOf_21 ?_
        refine lv_lconst (v := 0) S.1 S.2.1 dX4_rhymeOf_22 rfl ?_
        refine W.lcmp S.1 S.2.1 dX4_rhymeOf_23 ?_
        refine lv_if_eq (tgt := 83) S.1 S.2.1 dX4_rhymeOf_24 (by decide) (fun h_7 => ?_) (fun h_7 => ?_)
        · have hf := hf.1 ((lg_eq0 _ _).mp h_7)
          exact kx83 _ _ _ hf _ _ _ hP hD hS (lv_sub hl [3] rfl)
        · have hf := hf.2 (fun q => h_7 ((lg_eq0 _ _).mpr q))
          refine lv_lload S.1 S.2.1 dX4_rhymeOf_27 (lv_at hl 2 rfl) ?_
          refine lv_ldc2 (v := 31) S.1 S.2.1 S.2.2.2.1 k1 dX4_rhymeOf_29 ?_
          refine lv_land S.1 S.2.1 dX4_rhymeOf_32 ?_
          refine lv_lconst (v := 0) S.1 S.2.1 dX4_rhymeOf_33 rfl ?_
          refine W.lcmp S.1 S.2.1 dX4_rhymeOf_34 ?_
          refine lv_if_eq (tgt := 83) S.1 S.2.1 dX4_rhymeOf_35 (by decide) (fun h_8 => ?_) (fun h_8 => ?_)
          · have hf := hf.1 ((lg_eq0 _ _).mp h_8)
            exact kx83 _ _ _ hf _ _ _ hP hD hS (lv_sub hl [3] rfl)
          · have hf := hf.2 (fun q => h_8 ((lg_eq0 _ _).mpr q))
            refine lv_aload_n S.1 S.2.1 dX4_rhymeOf_38 rfl (lv_at hl 0 rfl) ?_
            refine gfX4_1 S iX4 hK hP hB (hM 1 (by decide)) k2 dX4_rhymeOf_39 ?_
            refine lv_lload S.1 S.2.1 dX4_rhymeOf_42 (lv_at hl 1 rfl) ?_
            refine lv_ldc2 (v := 31) S.1 S.2.1 S.2.2.2.1 k1 dX4_rhymeOf_44 ?_
            refine lv_land S.1 S.2.1 dX4_rhymeOf_47 ?_
            refine lv_l2i S.1 S.2.1 dX4_rhymeOf_48 rfl ?_
            obtain ⟨h_9, hf⟩ := hf
            refine R_iald S.1 S.2.1 hK hP (hM 4 (by decide)) (IAg4 E hB) h_9 dX4_rhymeOf_49 ?_
            refine lv_aload_n S.1 S.2.1 dX4_rhymeOf_50 rfl (lv_at hl 0 rfl) ?_
            refine gfX4_1 S iX4 hK hP hB (hM 1 (by decide)) k2 dX4_rhymeOf_51 ?_
            refine lv_lload S.1 S.2.1 dX4_rhymeOf_54 (lv_at hl 2 rfl) ?_
            refine lv_ldc2 (v := 31) S.1 S.2.1 S.2.2.2.1 k1 dX4_rhymeOf_56 ?_
            refine lv_land S.1 S.2.1 dX4_rhymeOf_59 ?_
            refine lv_l2i S.1 S.2.1 dX4_rhymeOf_60 rfl ?_
            obtain ⟨h_10, hf⟩ := hf
            refine R_iald S.1 S.2.1 hK hP (hM 4 (by decide)) (IAg4 E hB) h_10 dX4_rhymeOf_61 ?_
            refine lv_icmp_ne (tgt := 83) S.1 S.2.1 dX4_rhymeOf_62 (by decide) (fun h_11 => ?_) (fun h_11 => ?_)
            · have hf := hf.2 h_11
              exact kx83 _ _ _ hf _ _ _ hP hD hS (lv_sub hl [3] rfl)
            · have hf := hf.1 h_11
              refine nm_o hf (fun x9_12 ex9_12 hf => ?_)
              refine lv_iinc (v := x9_12) (lv' := [(9, .int x9_12), (0, .ref (eA E b 1)), (5, .long x5_1), (7, .long x7_2)]) S.1 S.2.1 dX4_rhymeOf_65 hl (k := 3) rfl (by rw [ex9_12]; rfl) (by decide) rfl (fun ls hl => ?_)
              refine lv_lload S.1 S.2.1 dX4_rhymeOf_68 (lv_at hl 2 rfl) ?_
              refine lv_iconst (v := 5) S.1 S.2.1 dX4_rhymeOf_70 rfl ?_
              refine lv_lushr S.1 S.2.1 dX4_rhymeOf_71 rfl ?_
              refine lv_topl (fun x5_13 ex5_13 => ?_)
              have hf := hf x5_13 ex5_13
              refine lv_lstore (lv' := [(5, .long x5_13), (9, .int x9_12), (0, .ref (eA E b 1)), (7, .long x7_2)]) S.1 S.2.1 dX4_rhymeOf_72 hl (by decide) rfl (fun ls hl => ?_)
              refine lv_lload S.1 S.2.1 dX4_rhymeOf_74 (lv_at hl 3 rfl) ?_
              refine lv_iconst (v := 5) S.1 S.2.1 dX4_rhymeOf_76 rfl ?_
              refine lv_lushr S.1 S.2.1 dX4_rhymeOf_77 rfl ?_
              refine lv_topl (fun x7_14 ex7_14 => ?_)
              have hf := hf x7_14 ex7_14
              refine lv_lstore (lv' := [(7, .long x7_14), (5, .long x5_13), (9, .int x9_12), (0, .ref (eA E b 1))]) S.1 S.2.1 dX4_rhymeOf_78 hl (by decide) rfl (fun ls hl => ?_)
              refine lv_goto (tgt := 9) S.1 S.2.1 dX4_rhymeOf_80 (by decide) ?_
              exact ih9 _ _ _ _ _ hf _ _ _ hP hD hS (lv_sub hl [3, 1, 0, 2] rfl)
  refine L9 _ (fun x9_15 I_16 J_17 hf H locs ls hP hD hS hl => ?_)  n_18 _ _ _ _ _ hf _ _ _ hP hD hS (lv_sub hl [3, 2, 1, 0] rfl)
  refine lv_iload S.1 S.2.1 dX4_rhymeOf_83 (lv_at hl 0 rfl) ?_
  exact hret hf rfl hP hD hS dX4_rhymeOf_85
abbrev rmX6_isLetter : Room := { frames := 0, cells := 0, slots := 0, locals := 0 }
theorem yk_X6_isLetter : yOk yX6_isLetter RX6 1 := by unfold yOk; decide +kernel
def f_X6_isLetter (x0 : Int32) (I : MI) (J : MJ) (Q : Int32 → MI → MJ → Prop) : Prop :=
  ((x0 < (97 : Int32) → Q (0 : Int32) I J) ∧ (¬ x0 < (97 : Int32) → (((122 : Int32) < x0 → Q (0 : Int32) I J) ∧ (¬ (122 : Int32) < x0 → Q (1 : Int32) I J))))
set_option maxRecDepth 100000 in
set_option maxHeartbeats 4000000 in
theorem c_X6_isLetter {l : Launch} {E : EV} {ps : List (Nat × Nat)}  {x0 : Int32} {I : MI} {J : MJ} {Q : Int32 → MI → MJ → Prop} (hf : f_X6_isLetter x0 I J Q) : KI l yX6_isLetter wsX6_isLetter rmX6_isLetter E ps [.int x0] I J Q := by
  refine K_ofI (cc := cX6_isLetter) (maxL := 1) (ty := .boolean) (by decide +kernel) rfl (Nat.le_of_ble_eq_true rfl) (fun p e s m args below meth c Qm hret S hK hX => ?_)
  have hA : ∀ q, s.heap.size ≤ q → AA E ps s.heap.size q := fun _ h => Or.inr h
  intro H locs ls hP hD hS hl
  unfold f_X6_isLetter at hf
  refine lv_iload_n S.1 S.2.1 dX6_isLetter_0 rfl (lv_at hl 0 rfl) ?_
  refine lv_bipush (v := 97) S.1 S.2.1 dX6_isLetter_1 rfl ?_
  refine lv_icmp_lt (tgt := 16) S.1 S.2.1 dX6_isLetter_3 (by decide) (fun h_1 => ?_) (fun h_1 => ?_)
  · have hf := hf.1 h_1
    refine lv_iconst (v := 0) S.1 S.2.1 dX6_isLetter_16 rfl ?_
    exact hret hf rfl hP hD hS dX6_isLetter_17
  · have hf := hf.2 h_1
    refine lv_iload_n S.1 S.2.1 dX6_isLetter_6 rfl (lv_at hl 0 rfl) ?_
    refine lv_bipush (v := 122) S.1 S.2.1 dX6_isLetter_7 rfl ?_
    refine lv_icmp_gt (tgt := 16) S.1 S.2.1 dX6_isLetter_9 (by decide) (fun h_2 => ?_) (fun h_2 => ?_)
    · have hf := hf.1 h_2
      refine lv_iconst (v := 0) S.1 S.2.1 dX6_isLetter_16 rfl ?_
      exact hret hf rfl hP hD hS dX6_isLetter_17
    · have hf := hf.2 h_2
      refine lv_iconst (v := 1) S.1 S.2.1 dX6_isLetter_12 rfl ?_
      refine lv_goto (tgt := 17) S.1 S.2.1 dX6_isLetter_13 (by decide) ?_
      exact hret hf rfl hP hD hS dX6_isLetter_17
abbrev rmX6_ofBytes : Room := { frames := 0, cells := 0, slots := 0, locals := 0 }
theorem yk_X6_ofBytes : yOk yX6_ofBytes RX6 3 := by unfold yOk; decide +kernel
def f_X6_ofBytes_B5 (b1 : Nat) (r1 : Nat) (n1 : Nat) (x2_1 : Int32) (K39 : Int64 → MI → MJ → Prop) (rec5 : Int64 → Int32 → MI → MJ → Prop) (x3_2 : Int64) (x5_3 : Int32) (I_4 : MI) (J_5 : MJ) : Prop :=
  ((x2_1 ≤ x5_3 → K39 x3_2 I_4 J_5) ∧ (¬ x2_1 ≤ x5_3 → (((nI n1) ≤ x5_3 → K39 x3_2 I_4 J_5) ∧ (¬ (nI n1) ≤ x5_3 → (vp_in x5_3 n1 ∧ ∀ x3_9 : Int64, x3_9 = ((x3_2 <<< ((5 : Int32).toInt64 &&& 63)) ||| ((((I_4 b1 r1 x5_3.toNatClampNeg) - (97 : Int32)) + (1 : Int32)).toInt64)) → ∀ x5_10 : Int32, x5_10 = x5_3 + (1 : Int32) → rec5 x3_9 x5_10 I_4 J_5)))))
def f_X6_ofBytes_L5 (b1 : Nat) (r1 : Nat) (n1 : Nat) (x2_1 : Int32) (K39 : Int64 → MI → MJ → Prop) : Nat → Int64 → Int32 → MI → MJ → Prop
  | 0, _, _, _, _ => False
  | n + 1, x3_2, x5_3, I_4, J_5 => f_X6_ofBytes_B5 b1 r1 n1 x2_1 K39 (f_X6_ofBytes_L5 b1 r1 n1 x2_1 K39 n) x3_2 x5_3 I_4 J_5
def f_X6_ofBytes (b1 : Nat) (r1 : Nat) (n1 : Nat) (x1 : Int32) (x2 : Int32) (I : MI) (J : MJ) (Q : Int64 → MI → MJ → Prop) : Prop :=
  ∃ n : Nat, f_X6_ofBytes_L5 b1 r1 n1 x2 (fun (x3_11 : Int64) (I_12 : MI) (J_13 : MJ) => Q x3_11 I_12 J_13) n (0 : Int64) x1 I J
set_option maxRecDepth 100000 in
set_option maxHeartbeats 4000000 in
theorem c_X6_ofBytes {l : Launch} {E : EV} {ps : List (Nat × Nat)} {b1 r1 n1 : Nat} (hm1 : (b1, r1) ∈ ps) (hc1 : IA E b1 r1 n1) {x1 : Int32} {x2 : Int32} {I : MI} {J : MJ} {Q : Int64 → MI → MJ → Prop} (hf : f_X6_ofBytes b1 r1 n1 x1 x2 I J Q) : KL l yX6_ofBytes wsX6_ofBytes rmX6_ofBytes E ps [.ref (eA E b1 r1), .int x1, .int x2] I J Q := by
  refine K_ofL (cc := cX6_ofBytes) (maxL := 6) (by decide +kernel) rfl (Nat.le_of_ble_eq_true rfl) (fun p e s m args below meth c Qm hret S hK hX => ?_)
  have hA : ∀ q, s.heap.size ≤ q → AA E ps s.heap.size q := fun _ h => Or.inr h
  intro H locs ls hP hD hS hl
  unfold f_X6_ofBytes at hf
  refine lv_lconst (v := 0) S.1 S.2.1 dX6_ofBytes_0 rfl ?_
  refine lv_lstore_n (lv' := [(3, .long (0 : Int64)), (0, .ref (eA E b1 r1)), (1, .int x1), (2, .int x2)]) S.1 S.2.1 dX6_ofBytes_1 rfl hl (by decide) rfl (fun ls hl => ?_)
  refine lv_iload_n S.1 S.2.1 dX6_ofBytes_2 rfl (lv_at hl 2 rfl) ?_
  refine lv_istore (lv' := [(5, .int x1), (3, .long (0 : Int64)), (0, .ref (eA E b1 r1)), (1, .int x1), (2, .int x2)]) S.1 S.2.1 dX6_ofBytes_3 hl (by decide) rfl (fun ls hl => ?_)
  obtain ⟨n_14, hf⟩ := hf
  have L5 : ∀ (x2_1 : Int32), ∀ (K39 : Int64 → MI → MJ → Prop), (∀ (x3_11 : Int64) (I_12 : MI) (J_13 : MJ), K39 x3_11 I_12 J_13 → Wj p l e (rmX6_ofBytes) s m args below meth c Qm E ps 6 I_12 J_13 39 [(3, .long x3_11)] []) → ∀ (n : Nat) (x3_2 : Int64) (x5_3 : Int32) (I_4 : MI) (J_5 : MJ), f_X6_ofBytes_L5 b1 r1 n1 x2_1 K39 n x3_2 x5_3 I_4 J_5 → Wj p l e (rmX6_ofBytes) s m args below meth c Qm E ps 6 I_4 J_5 5 [(0, .ref (eA E b1 r1)), (2, .int x2_1), (3, .long x3_2), (5, .int x5_3)] [] := by
    intro x2_1 K39 kx39 n
    induction n with
    | zero => intro x3_2 x5_3 I_4 J_5 hf; exact hf.elim
    | succ n ih5 =>
      intro x3_2 x5_3 I_4 J_5 hf
      have hf : f_X6_ofBytes_B5 b1 r1 n1 x2_1 K39 (f_X6_ofBytes_L5 b1 r1 n1 x2_1 K39 n) x3_2 x5_3 I_4 J_5 := hf
      intro H locs ls hP hD hS hl
      unfold f_X6_ofBytes_B5 at hf
      refine lv_iload S.1 S.2.1 dX6_ofBytes_5 (lv_at hl 3 rfl) ?_
      refine lv_iload_n S.1 S.2.1 dX6_ofBytes_7 rfl (lv_at hl 1 rfl) ?_
      refine lv_icmp_ge (tgt := 39) S.1 S.2.1 dX6_ofBytes_8 (by decide) (fun h_6 => ?_) (fun h_6 => ?_)
      · have hf := hf.1 h_6
        exact kx39 _ _ _ hf _ _ _ hP hD hS (lv_sub hl [2] rfl)
      · have hf := hf.2 h_6
        refine lv_iload S.1 S.2.1 dX6_ofBytes_11 (lv_at hl 3 rfl) ?_
        refine lv_aload_n S.1 S.2.1 dX6_ofBytes_13 rfl (lv_at hl 0 rfl) ?_
        refine R_alenI S.1 S.2.1 hK hP hm1 hc1 dX6_ofBytes_14 ?_
        refine lv_icmp_ge (tgt := 39) S.1 S.2.1 dX6_ofBytes_15 (by decide) (fun h_7 => ?_) (fun h_7 => ?_)
        · have hf := hf.1 h_7
          exact kx39 _ _ _ hf _ _ _ hP hD hS (lv_sub hl [2] rfl)
        · have hf := hf.2 h_7
          refine lv_lload_n S.1 S.2.1 dX6_ofBytes_18 rfl (lv_at hl 2 rfl) ?_
          refine lv_iconst (v := 5) S.1 S.2.1 dX6_ofBytes_19 rfl ?_
          refine lv_lshl S.1 S.2.1 dX6_ofBytes_20 rfl ?_
          refine lv_aload_n S.1 S.2.1 dX6_ofBytes_21 rfl (lv_at hl 0 rfl) ?_
          refine lv_iload S.1 S.2.1 dX6_ofBytes_22 (lv_at hl 3 rfl) ?_
          obtain ⟨h_8, hf⟩ := hf
          refine R_iald S.1 S.2.1 hK hP hm1 hc1 h_8 dX6_ofBytes_24 ?_
          refine lv_bipush (v := 97) S.1 S.2.1 dX6_ofBytes_25 rfl ?_
          refine lv_isub S.1 S.2.1 dX6_ofBytes_27 ?_
          refine lv_iconst (v := 1) S.1 S.2.1 dX6_ofBytes_28 rfl ?_
          refine lv_iadd S.1 S.2.1 dX6_ofBytes_29 ?_
          refine lv_i2l S.1 S.2.1 dX6_ofBytes_30 rfl ?_
          refine lv_lor S.1 S.2.1 dX6_ofBytes_31 ?_
          refine lv_topl (fun x3_9 ex3_9 => ?_)
          have hf := hf x3_9 ex3_9
          refine lv_lstore_n (lv' := [(3, .long x3_9), (0, .ref (eA E b1 r1)), (2, .int x2_1), (5, .int x5_3)]) S.1 S.2.1 dX6_ofBytes_32 rfl hl (by decide) rfl (fun ls hl => ?_)
          refine nm_o hf (fun x5_10 ex5_10 hf => ?_)
          refine lv_iinc (v := x5_10) (lv' := [(5, .int x5_10), (3, .long x3_9), (0, .ref (eA E b1 r1)), (2, .int x2_1)]) S.1 S.2.1 dX6_ofBytes_33 hl (k := 3) rfl (by rw [ex5_10]; rfl) (by decide) rfl (fun ls hl => ?_)
          refine lv_goto (tgt := 5) S.1 S.2.1 dX6_ofBytes_36 (by decide) ?_
          exact ih5 _ _ _ _ hf _ _ _ hP hD hS (lv_sub hl [2, 3, 1, 0] rfl)
  refine L5 _ _ (fun x3_11 I_12 J_13 hf H locs ls hP hD hS hl => ?_)  n_14 _ _ _ _ hf _ _ _ hP hD hS (lv_sub hl [2, 4, 1, 0] rfl)
  refine lv_lload_n S.1 S.2.1 dX6_ofBytes_39 rfl (lv_at hl 0 rfl) ?_
  exact hret hf hP hD hS dX6_ofBytes_40
abbrev rmX6_length : Room := { frames := 0, cells := 0, slots := 0, locals := 0 }
theorem yk_X6_length : yOk yX6_length RX6 1 := by unfold yOk; decide +kernel
def f_X6_length_B4 (K26 : Int32 → MI → MJ → Prop) (rec4 : Int32 → Int64 → MI → MJ → Prop) (x2_1 : Int32) (x3_2 : Int64) (I_3 : MI) (J_4 : MJ) : Prop :=
  ((x3_2 = (0 : Int64) → K26 x2_1 I_3 J_4) ∧ (¬ x3_2 = (0 : Int64) → (((8 : Int32) ≤ x2_1 → K26 x2_1 I_3 J_4) ∧ (¬ (8 : Int32) ≤ x2_1 → ∀ x2_7 : Int32, x2_7 = x2_1 + (1 : Int32) → ∀ x3_8 : Int64, x3_8 = ((x3_2.toUInt64 >>> ((5 : Int32).toInt64.toUInt64 &&& Int64.toUInt64 63)).toInt64) → rec4 x2_7 x3_8 I_3 J_4))))
def f_X6_length_L4 (K26 : Int32 → MI → MJ → Prop) : Nat → Int32 → Int64 → MI → MJ → Prop
  | 0, _, _, _, _ => False
  | n + 1, x2_1, x3_2, I_3, J_4 => f_X6_length_B4 K26 (f_X6_length_L4 K26 n) x2_1 x3_2 I_3 J_4
def f_X6_length (x0 : Int64) (I : MI) (J : MJ) (Q : Int32 → MI → MJ → Prop) : Prop :=
  ∃ n : Nat, f_X6_length_L4 (fun (x2_9 : Int32) (I_10 : MI) (J_11 : MJ) => Q x2_9 I_10 J_11) n (0 : Int32) x0 I J
set_option maxRecDepth 100000 in
set_option maxHeartbeats 4000000 in
theorem c_X6_length {l : Launch} {E : EV} {ps : List (Nat × Nat)}  {x0 : Int64} {I : MI} {J : MJ} {Q : Int32 → MI → MJ → Prop} (hf : f_X6_length x0 I J Q) : KI l yX6_length wsX6_length rmX6_length E ps [.long x0] I J Q := by
  refine K_ofI (cc := cX6_length) (maxL := 5) (ty := .int) (by decide +kernel) rfl (Nat.le_of_ble_eq_true rfl) (fun p e s m args below meth c Qm hret S hK hX => ?_)
  have hA : ∀ q, s.heap.size ≤ q → AA E ps s.heap.size q := fun _ h => Or.inr h
  intro H locs ls hP hD hS hl
  unfold f_X6_length at hf
  refine lv_iconst (v := 0) S.1 S.2.1 dX6_length_0 rfl ?_
  refine lv_istore_n (lv' := [(2, .int (0 : Int32)), (0, .long x0)]) S.1 S.2.1 dX6_length_1 rfl hl (by decide) rfl (fun ls hl => ?_)
  refine lv_lload_n S.1 S.2.1 dX6_length_2 rfl (lv_at hl 1 rfl) ?_
  refine lv_lstore_n (lv' := [(3, .long x0), (2, .int (0 : Int32)), (0, .long x0)]) S.1 S.2.1 dX6_length_3 rfl hl (by decide) rfl (fun ls hl => ?_)
  obtain ⟨n_12, hf⟩ := hf
  have L4 : ∀ (K26 : Int32 → MI → MJ → Prop), (∀ (x2_9 : Int32) (I_10 : MI) (J_11 : MJ), K26 x2_9 I_10 J_11 → Wj p l e (rmX6_length) s m args below meth c Qm E ps 5 I_10 J_11 26 [(2, .int x2_9)] []) → ∀ (n : Nat) (x2_1 : Int32) (x3_2 : Int64) (I_3 : MI) (J_4 : MJ), f_X6_length_L4 K26 n x2_1 x3_2 I_3 J_4 → Wj p l e (rmX6_length) s m args below meth c Qm E ps 5 I_3 J_4 4 [(2, .int x2_1), (3, .long x3_2)] [] := by
    intro K26 kx26 n
    induction n with
    | zero => intro x2_1 x3_2 I_3 J_4 hf; exact hf.elim
    | succ n ih4 =>
      intro x2_1 x3_2 I_3 J_4 hf
      have hf : f_X6_length_B4 K26 (f_X6_length_L4 K26 n) x2_1 x3_2 I_3 J_4 := hf
      intro H locs ls hP hD hS hl
      unfold f_X6_length_B4 at hf
      refine lv_lload_n S.1 S.2.1 dX6_length_4 rfl (lv_at hl 1 rfl) ?_
      refine lv_lconst (v := 0) S.1 S.2.1 dX6_length_5 rfl ?_
      refine W.lcmp S.1 S.2.1 dX6_length_6 ?_
      refine lv_if_eq (tgt := 26) S.1 S.2.1 dX6_length_7 (by decide) (fun h_5 => ?_) (fun h_5 => ?_)
      · have hf := hf.1 ((lg_eq0 _ _).mp h_5)
        exact kx26 _ _ _ hf _ _ _ hP hD hS (lv_sub hl [0] rfl)
      · have hf := hf.2 (fun q => h_5 ((lg_eq0 _ _).mpr q))
        refine lv_iload_n S.1 S.2.1 dX6_length_10 rfl (lv_at hl 0 rfl) ?_
        refine lv_bipush (v := 8) S.1 S.2.1 dX6_length_11 rfl ?_
        refine lv_icmp_ge (tgt := 26) S.1 S.2.1 dX6_length_13 (by decide) (fun h_6 => ?_) (fun h_6 => ?_)
        · have hf := hf.1 h_6
          exact kx26 _ _ _ hf _ _ _ hP hD hS (lv_sub hl [0] rfl)
        · have hf := hf.2 h_6
          refine nm_o hf (fun x2_7 ex2_7 hf => ?_)
          refine lv_iinc (v := x2_7) (lv' := [(2, .int x2_7), (3, .long x3_2)]) S.1 S.2.1 dX6_length_16 hl (k := 0) rfl (by rw [ex2_7]; rfl) (by decide) rfl (fun ls hl => ?_)
          refine lv_lload_n S.1 S.2.1 dX6_length_19 rfl (lv_at hl 1 rfl) ?_
          refine lv_iconst (v := 5) S.1 S.2.1 dX6_length_20 rfl ?_
          refine lv_lushr S.1 S.2.1 dX6_length_21 rfl ?_
          refine lv_topl (fun x3_8 ex3_8 => ?_)
          have hf := hf x3_8 ex3_8
          refine lv_lstore_n (lv' := [(3, .long x3_8), (2, .int x2_7)]) S.1 S.2.1 dX6_length_22 rfl hl (by decide) rfl (fun ls hl => ?_)
          refine lv_goto (tgt := 4) S.1 S.2.1 dX6_length_23 (by decide) ?_
          exact ih4 _ _ _ _ hf _ _ _ hP hD hS (lv_sub hl [1, 0] rfl)
  refine L4 _ (fun x2_9 I_10 J_11 hf H locs ls hP hD hS hl => ?_)  n_12 _ _ _ _ hf _ _ _ hP hD hS (lv_sub hl [1, 0] rfl)
  refine lv_iload_n S.1 S.2.1 dX6_length_26 rfl (lv_at hl 0 rfl) ?_
  exact hret hf rfl hP hD hS dX6_length_27
abbrev rmX6_letterAt : Room := { frames := 1, cells := 0, slots := 0, locals := 24 }
theorem yk_X6_letterAt : yOk yX6_letterAt RX6 2 := by unfold yOk; decide +kernel
def f_X6_letterAt (x0 : Int64) (x2 : Int32) (I : MI) (J : MJ) (Q : Int32 → MI → MJ → Prop) : Prop :=
  f_X6_length x0 I J (fun (v_3 : Int32) (I_1 : MI) (J_2 : MJ) => ∀ x3_4 : Int32, x3_4 = ((v_3 - (1 : Int32)) - x2) → Q (((((x0.toUInt64 >>> (((5 : Int32) * x3_4).toInt64.toUInt64 &&& Int64.toUInt64 63)).toInt64) &&& (31 : Int64)).toInt32) - (1 : Int32)) I_1 J_2)
set_option maxRecDepth 100000 in
set_option maxHeartbeats 4000000 in
theorem c_X6_letterAt {l : Launch} {E : EV} {ps : List (Nat × Nat)}  {x0 : Int64} {x2 : Int32} {I : MI} {J : MJ} {Q : Int32 → MI → MJ → Prop} (hf : f_X6_letterAt x0 x2 I J Q) : KI l yX6_letterAt wsX6_letterAt rmX6_letterAt E ps [.long x0, .int x2] I J Q := by
  refine K_ofI (cc := cX6_letterAt) (maxL := 4) (ty := .int) (by decide +kernel) rfl (Nat.le_of_ble_eq_true rfl) (fun p e s m args below meth c Qm hret S hK hX => ?_)
  have hA : ∀ q, s.heap.size ≤ q → AA E ps s.heap.size q := fun _ h => Or.inr h
  have k1 := S.2.2.2.2 (.constantLong RX6 15 (31)) (by decide +kernel)
  intro H locs ls hP hD hS hl
  unfold f_X6_letterAt at hf
  refine lv_lload_n S.1 S.2.1 dX6_letterAt_0 rfl (lv_at hl 0 rfl) ?_
  refine R_cSi (As := [.long x0]) (rest := []) S (c_X6_length   hf) gX6_letterAt_X6_length rfl yk_X6_length ⟨⟨Nat.le_of_ble_eq_true rfl, Nat.le_of_ble_eq_true rfl⟩, rfl, rfl⟩ hK hP hD hS hX hA rfl hl.1 rfl (Nat.le_of_ble_eq_true rfl) ⟨Nat.zero_le _, Nat.zero_le _⟩ dX6_letterAt_1 (fun v_3 I_1 J_2 H locs hf hP hD hS => ?_)
  refine lv_iconst (v := 1) S.1 S.2.1 dX6_letterAt_4 rfl ?_
  refine lv_isub S.1 S.2.1 dX6_letterAt_5 ?_
  refine lv_iload_n S.1 S.2.1 dX6_letterAt_6 rfl (lv_at hl 1 rfl) ?_
  refine lv_isub S.1 S.2.1 dX6_letterAt_7 ?_
  refine lv_topi (fun x3_4 ex3_4 => ?_)
  have hf := hf x3_4 ex3_4
  refine lv_istore_n (lv' := [(3, .int x3_4), (0, .long x0), (2, .int x2)]) S.1 S.2.1 dX6_letterAt_8 rfl hl (by decide) rfl (fun ls hl => ?_)
  refine lv_lload_n S.1 S.2.1 dX6_letterAt_9 rfl (lv_at hl 1 rfl) ?_
  refine lv_iconst (v := 5) S.1 S.2.1 dX6_letterAt_10 rfl ?_
  refine lv_iload_n S.1 S.2.1 dX6_letterAt_11 rfl (lv_at hl 0 rfl) ?_
  refine lv_imul S.1 S.2.1 dX6_letterAt_12 ?_
  refine lv_lushr S.1 S.2.1 dX6_letterAt_13 rfl ?_
  refine lv_ldc2 (v := 31) S.1 S.2.1 S.2.2.2.1 k1 dX6_letterAt_14 ?_
  refine lv_land S.1 S.2.1 dX6_letterAt_17 ?_
  refine lv_l2i S.1 S.2.1 dX6_letterAt_18 rfl ?_
  refine lv_iconst (v := 1) S.1 S.2.1 dX6_letterAt_19 rfl ?_
  refine lv_isub S.1 S.2.1 dX6_letterAt_20 ?_
  exact hret hf rfl hP hD hS dX6_letterAt_21
abbrev rmX3_reset : Room := { frames := 1, cells := 0, slots := 0, locals := 21 }
theorem yk_X3_reset : yOk yX3_reset RX3 0 := by unfold yOk; decide +kernel
def f_X3_reset (b : Nat) (I : MI) (J : MJ) (Q : MI → MJ → Prop) : Prop :=
  ∀ I_1 : MI, I_1 = sI I b 2 2 (0 : Int32) → f_X3_add b (-1 : Int32) I_1 J (fun (I_2 : MI) (J_3 : MJ) => Q I_2 J_3)
set_option maxRecDepth 100000 in
set_option maxHeartbeats 4000000 in
theorem c_X3_reset {l : Launch} {E : EV} {ps : List (Nat × Nat)} {b : Nat} (hB : b < 11) (hM : ∀ r, r < 16 → (b, r) ∈ ps) {I : MI} {J : MJ} {Q : MI → MJ → Prop} (hf : f_X3_reset b I J Q) : KV l yX3_reset wsX3_reset rmX3_reset E ps [.ref (eA E b 2)] I J Q := by
  refine K_ofV (cc := cX3_reset) (maxL := 1) (by decide +kernel) rfl (Nat.le_of_ble_eq_true rfl) (fun p e s m args below meth c Qm hret S hK hX => ?_)
  have hA : ∀ q, s.heap.size ≤ q → AA E ps s.heap.size q := fun _ h => Or.inr h
  have k1 := S.2.2.2.2 (.fieldLink RX3 18 "RhymeRoofs$Rank" "length" "I") (by decide +kernel)
  have iX3 : ∀ w ∈ wsX30, w ∈ wsX3_reset := fun _ h => List.mem_cons_of_mem _ (List.mem_append_right _ h)
  intro H locs ls hP hD hS hl
  unfold f_X3_reset at hf
  refine lv_aload_n S.1 S.2.1 dX3_reset_0 rfl (lv_at hl 0 rfl) ?_
  refine lv_iconst (v := 0) S.1 S.2.1 dX3_reset_1 rfl ?_
  refine nm_o hf (fun I_1 eI_1 hf => ?_)
  refine pfX3_2 S iX3 hK hP hD hS hB (hM 2 (by decide)) k1 dX3_reset_2 eI_1 (fun H locs hP hD hS => ?_)
  refine lv_aload_n S.1 S.2.1 dX3_reset_5 rfl (lv_at hl 0 rfl) ?_
  refine lv_iconst (v := (-1)) S.1 S.2.1 dX3_reset_6 rfl ?_
  refine R_cVv (As := [.int (-1 : Int32)]) (rest := []) S (c_X3_add (hB := hB) (hM := hM)  hf) gX3_reset_X3_add rfl yk_X3_add ⟨⟨Nat.le_of_ble_eq_true rfl, Nat.le_of_ble_eq_true rfl⟩, rfl, rfl⟩ hK hP hD hS hX hA (hM 2 (by decide)) (cF_g E hB _ _ 2) rfl rfl hl.1 rfl (Nat.le_of_ble_eq_true rfl) ⟨Nat.zero_le _, Nat.zero_le _⟩ dX3_reset_7 (fun I_2 J_3 H locs hf hP hD hS => ?_)
  exact hret hf hP hD hS dX3_reset_10
abbrev rmX3_value : Room := { frames := 1, cells := 0, slots := 0, locals := 26 }
theorem yk_X3_value : yOk yX3_value RX3 1 := by unfold yOk; decide +kernel
def f_X3_value_B4 (b : Nat) (K108 : MI → MJ → Prop) (rec4 : Int32 → Int32 → MI → MJ → Prop) (x2_1 : Int32) (x3_2 : Int32) (I_3 : MI) (J_4 : MJ) : Prop :=
  (((I_3 b 2 2) ≤ x3_2 → K108 I_3 J_4) ∧ (¬ (I_3 b 2 2) ≤ x3_2 → (vp_in x3_2 600 ∧ ∀ x4_7 : Int32, x4_7 = I_3 b 5 x3_2.toNatClampNeg → (((-6 : Int32) ≤ x4_7 → (((16 : Int32) ≤ x2_1 → ∀ x3_10 : Int32, x3_10 = x3_2 + (1 : Int32) → rec4 x2_1 x3_10 I_3 J_4) ∧ (¬ (16 : Int32) ≤ x2_1 → ((x4_7 < (0 : Int32) → f_X3_indexOf x4_7 I_3 J_4 (fun (v_14 : Int32) (I_12 : MI) (J_13 : MJ) => (vp_in v_14 6 ∧ (vp_in x2_1 16 ∧ ∀ I_17 : MI, I_17 = sI I_12 b 6 x2_1.toNatClampNeg (I_12 b 15 v_14.toNatClampNeg) → ∀ x2_18 : Int32, x2_18 = x2_1 + (1 : Int32) → ∀ x3_19 : Int32, x3_19 = x3_2 + (1 : Int32) → rec4 x2_18 x3_19 I_17 J_13)))) ∧ (¬ x4_7 < (0 : Int32) → (vp_in x2_1 16 ∧ ∀ I_21 : MI, I_21 = sI I_3 b 6 x2_1.toNatClampNeg x4_7 → ∀ x2_22 : Int32, x2_22 = x2_1 + (1 : Int32) → ∀ x3_23 : Int32, x3_23 = x3_2 + (1 : Int32) → rec4 x2_22 x3_23 I_21 J_4)))))) ∧ (¬ (-6 : Int32) ≤ x4_7 → ((x2_1 < (2 : Int32) → ∀ x3_25 : Int32, x3_25 = x3_2 + (1 : Int32) → rec4 x2_1 x3_25 I_3 J_4) ∧ (¬ x2_1 < (2 : Int32) → ∀ x2_26 : Int32, x2_26 = x2_1 + (-1 : Int32) → (vp_in (x2_26 - (1 : Int32)) 16 ∧ (vp_in x2_26 16 ∧ f_X3_result x4_7 ((I_3 b 6 (x2_26 - (1 : Int32)).toNatClampNeg).toInt64) ((I_3 b 6 x2_26.toNatClampNeg).toInt64) I_3 J_4 (fun (v_31 : Int32) (I_29 : MI) (J_30 : MJ) => (vp_in (x2_26 - (1 : Int32)) 16 ∧ ∀ I_33 : MI, I_33 = sI I_29 b 6 (x2_26 - (1 : Int32)).toNatClampNeg v_31 → ∀ x3_34 : Int32, x3_34 = x3_2 + (1 : Int32) → rec4 x2_26 x3_34 I_33 J_30)))))))))))
def f_X3_value_L4 (b : Nat) (K108 : MI → MJ → Prop) : Nat → Int32 → Int32 → MI → MJ → Prop
  | 0, _, _, _, _ => False
  | n + 1, x2_1, x3_2, I_3, J_4 => f_X3_value_B4 b K108 (f_X3_value_L4 b K108 n) x2_1 x3_2 I_3 J_4
def f_X3_value (b : Nat) (I : MI) (J : MJ) (Q : Int32 → MI → MJ → Prop) : Prop :=
  ∃ n : Nat, f_X3_value_L4 b (fun (I_35 : MI) (J_36 : MJ) => (vp_in (0 : Int32) 16 ∧ Q (I_35 b 6 (0 : Int32).toNatClampNeg) I_35 J_36)) n (0 : Int32) (0 : Int32) I J
set_option maxRecDepth 100000 in
set_option maxHeartbeats 4000000 in
theorem c_X3_value {l : Launch} {E : EV} {ps : List (Nat × Nat)} {b : Nat} (hB : b < 11) (hM : ∀ r, r < 16 → (b, r) ∈ ps) {I : MI} {J : MJ} {Q : Int32 → MI → MJ → Prop} (hf : f_X3_value b I J Q) : KI l yX3_value wsX3_value rmX3_value E ps [.ref (eA E b 2), .ref (eA E b 15)] I J Q := by
  refine K_ofI (cc := cX3_value) (maxL := 5) (ty := .int) (by decide +kernel) rfl (Nat.le_of_ble_eq_true rfl) (fun p e s m args below meth c Qm hret S hK hX => ?_)
  have hA : ∀ q, s.heap.size ≤ q → AA E ps s.heap.size q := fun _ h => Or.inr h
  have k1 := S.2.2.2.2 (.fieldLink RX3 18 "RhymeRoofs$Rank" "length" "I") (by decide +kernel)
  have iX3 : ∀ w ∈ wsX30, w ∈ wsX3_value := fun _ h => List.mem_cons_of_mem _ (List.mem_append_right _ h)
  have k2 := S.2.2.2.2 (.fieldLink RX3 9 "RhymeRoofs$Rank" "codes" "[I") (by decide +kernel)
  have k3 := S.2.2.2.2 (.fieldLink RX3 15 "RhymeRoofs$Rank" "operands" "[I") (by decide +kernel)
  intro H locs ls hP hD hS hl
  unfold f_X3_value at hf
  refine lv_iconst (v := 0) S.1 S.2.1 dX3_value_0 rfl ?_
  refine lv_istore_n (lv' := [(2, .int (0 : Int32)), (0, .ref (eA E b 2)), (1, .ref (eA E b 15))]) S.1 S.2.1 dX3_value_1 rfl hl (by decide) rfl (fun ls hl => ?_)
  refine lv_iconst (v := 0) S.1 S.2.1 dX3_value_2 rfl ?_
  refine lv_istore_n (lv' := [(3, .int (0 : Int32)), (2, .int (0 : Int32)), (0, .ref (eA E b 2)), (1, .ref (eA E b 15))]) S.1 S.2.1 dX3_value_3 rfl hl (by decide) rfl (fun ls hl => ?_)
  obtain ⟨n_38, hf⟩ := hf
  have L4 : ∀ (K108 : MI → MJ → Prop), (∀ (I_35 : MI) (J_36 : MJ), K108 I_35 J_36 → Wj p l e (rmX3_value) s m args below meth c Qm E ps 5 I_35 J_36 108 [(0, .ref (eA E b 2))] []) → ∀ (n : Nat) (x2_1 : Int32) (x3_2 : Int32) (I_3 : MI) (J_4 : MJ), f_X3_value_L4 b K108 n x2_1 x3_2 I_3 J_4 → Wj p l e (rmX3_value) s m args below meth c Qm E ps 5 I_3 J_4 4 [(0, .ref (eA E b 2)), (1, .ref (eA E b 15)), (2, .int x2_1), (3, .int x3_2)] [] := by
    intro K108 kx108 n
    induction n with
    | zero => intro x2_1 x3_2 I_3 J_4 hf; exact hf.elim
    | succ n ih4 =>
      intro x2_1 x3_2 I_3 J_4 hf
      have hf : f_X3_value_B4 b K108 (f_X3_value_L4 b K108 n) x2_1 x3_2 I_3 J_4 := hf
      intro H locs ls hP hD hS hl
      unfold f_X3_value_B4 at hf
      refine lv_iload_n S.1 S.2.1 dX3_value_4 rfl (lv_at hl 3 rfl) ?_
      refine lv_aload_n S.1 S.2.1 dX3_value_5 rfl (lv_at hl 0 rfl) ?_
      refine gfX3_2 S iX3 hK hP hB (hM 2 (by decide)) k1 dX3_value_6 ?_
      refine lv_icmp_ge (tgt := 108) S.1 S.2.1 dX3_value_9 (by decide) (fun h_5 => ?_) (fun h_5 => ?_)
      · have hf := hf.1 h_5
        exact kx108 _ _ hf _ _ _ hP hD hS (lv_sub hl [0] rfl)
      · have hf := hf.2 h_5
        refine lv_aload_n S.1 S.2.1 dX3_value_12 rfl (lv_at hl 0 rfl) ?_
        refine gfX3_0 S iX3 hK hP hB (hM 2 (by decide)) k2 dX3_value_13 ?_
        refine lv_iload_n S.1 S.2.1 dX3_value_16 rfl (lv_at hl 3 rfl) ?_
        obtain ⟨h_6, hf⟩ := hf
        refine R_iald S.1 S.2.1 hK hP (hM 5 (by decide)) (IAg5 E hB) h_6 dX3_value_17 ?_
        refine lv_topi (fun x4_7 ex4_7 => ?_)
        have hf := hf x4_7 ex4_7
        refine lv_istore (lv' := [(4, .int x4_7), (0, .ref (eA E b 2)), (1, .ref (eA E b 15)), (2, .int x2_1), (3, .int x3_2)]) S.1 S.2.1 dX3_value_18 hl (by decide) rfl (fun ls hl => ?_)
        refine lv_iload S.1 S.2.1 dX3_value_20 (lv_at hl 0 rfl) ?_
        refine lv_bipush (v := (-6)) S.1 S.2.1 dX3_value_22 rfl ?_
        refine lv_icmp_ge (tgt := 67) S.1 S.2.1 dX3_value_24 (by decide) (fun h_8 => ?_) (fun h_8 => ?_)
        · have hf := hf.1 h_8
          refine lv_iload_n S.1 S.2.1 dX3_value_67 rfl (lv_at hl 3 rfl) ?_
          refine lv_aload_n S.1 S.2.1 dX3_value_68 rfl (lv_at hl 1 rfl) ?_
          refine gfX3_1 S iX3 hK hP hB (hM 2 (by decide)) k3 dX3_value_69 ?_
          refine R_alenI S.1 S.2.1 hK hP (hM 6 (by decide)) (IAg6 E hB) dX3_value_72 ?_
          refine lv_icmp_ge (tgt := 102) S.1 S.2.1 dX3_value_73 (by decide) (fun h_9 => ?_) (fun h_9 => ?_)
          · have hf := hf.1 h_9
            refine nm_o hf (fun x3_10 ex3_10 hf => ?_)
            refine lv_iinc (v := x3_10) (lv' := [(3, .int x3_10), (4, .int x4_7), (0, .ref (eA E b 2)), (1, .ref (eA E b 15)), (2, .int x2_1)]) S.1 S.2.1 dX3_value_102 hl (k := 4) rfl (by rw [ex3_10]; rfl) (by decide) rfl (fun ls hl => ?_)
            refine lv_goto (tgt := 4) S.1 S.2.1 dX3_value_105 (by decide) ?_
            exact ih4 _ _ _ _ hf _ _ _ hP hD hS (lv_sub hl [2, 3, 4, 0] rfl)
          · have hf := hf.2 h_9
            refine lv_aload_n S.1 S.2.1 dX3_value_76 rfl (lv_at hl 1 rfl) ?_
            refine gfX3_1 S iX3 hK hP hB (hM 2 (by decide)) k3 dX3_value_77 ?_
            refine lv_iload_n S.1 S.2.1 dX3_value_80 rfl (lv_at hl 3 rfl) ?_
            refine lv_iload S.1 S.2.1 dX3_value_81 (lv_at hl 0 rfl) ?_
            refine lv_if_lt (tgt := 91) S.1 S.2.1 dX3_value_83 (by decide) (fun h_11 => ?_) (fun h_11 => ?_)
            · have hf := hf.1 h_11
              refine lv_aload_n S.1 S.2.1 dX3_value_91 rfl (lv_at hl 2 rfl) ?_
              refine lv_iload S.1 S.2.1 dX3_value_92 (lv_at hl 0 rfl) ?_
              refine R_cSi (As := [.int x4_7]) (rest := [.ref (eA E b 15), .int x2_1, .ref (eA E b 6)]) S (c_X3_indexOf   hf) gX3_value_X3_indexOf rfl yk_X3_indexOf ⟨⟨Nat.le_of_ble_eq_true rfl, Nat.le_of_ble_eq_true rfl⟩, rfl, rfl⟩ hK hP hD hS hX hA rfl hl.1 rfl (Nat.le_of_ble_eq_true rfl) ⟨Nat.zero_le _, Nat.zero_le _⟩ dX3_value_94 (fun v_14 I_12 J_13 H locs hf hP hD hS => ?_)
              obtain ⟨h_15, hf⟩ := hf
              refine R_iald S.1 S.2.1 hK hP (hM 15 (by decide)) (IAg15 E hB) h_15 dX3_value_97 ?_
              obtain ⟨h_16, hf⟩ := hf
              refine nm_o hf (fun I_17 eI_17 hf => ?_)
              refine R_iast S.1 S.2.1 hK hP hD hS (hM 6 (by decide)) (IAg6 E hB) h_16 dX3_value_98 eI_17 (fun H locs hP hD hS => ?_)
              refine nm_o hf (fun x2_18 ex2_18 hf => ?_)
              refine lv_iinc (v := x2_18) (lv' := [(2, .int x2_18), (4, .int x4_7), (0, .ref (eA E b 2)), (1, .ref (eA E b 15)), (3, .int x3_2)]) S.1 S.2.1 dX3_value_99 hl (k := 3) rfl (by rw [ex2_18]; rfl) (by decide) rfl (fun ls hl => ?_)
              refine nm_o hf (fun x3_19 ex3_19 hf => ?_)
              refine lv_iinc (v := x3_19) (lv' := [(3, .int x3_19), (2, .int x2_18), (4, .int x4_7), (0, .ref (eA E b 2)), (1, .ref (eA E b 15))]) S.1 S.2.1 dX3_value_102 hl (k := 4) rfl (by rw [ex3_19]; rfl) (by decide) rfl (fun ls hl => ?_)
              refine lv_goto (tgt := 4) S.1 S.2.1 dX3_value_105 (by decide) ?_
              exact ih4 _ _ _ _ hf _ _ _ hP hD hS (lv_sub hl [3, 4, 1, 0] rfl)
            · have hf := hf.2 h_11
              refine lv_iload S.1 S.2.1 dX3_value_86 (lv_at hl 0 rfl) ?_
              refine lv_goto (tgt := 98) S.1 S.2.1 dX3_value_88 (by decide) ?_
              obtain ⟨h_20, hf⟩ := hf
              refine nm_o hf (fun I_21 eI_21 hf => ?_)
              refine R_iast S.1 S.2.1 hK hP hD hS (hM 6 (by decide)) (IAg6 E hB) h_20 dX3_value_98 eI_21 (fun H locs hP hD hS => ?_)
              refine nm_o hf (fun x2_22 ex2_22 hf => ?_)
              refine lv_iinc (v := x2_22) (lv' := [(2, .int x2_22), (4, .int x4_7), (0, .ref (eA E b 2)), (1, .ref (eA E b 15)), (3, .int x3_2)]) S.1 S.2.1 dX3_value_99 hl (k := 3) rfl (by rw [ex2_22]; rfl) (by decide) rfl (fun ls hl => ?_)
              refine nm_o hf (fun x3_23 ex3_23 hf => ?_)
              refine lv_iinc (v := x3_23) (lv' := [(3, .int x3_23), (2, .int x2_22), (4, .int x4_7), (0, .ref (eA E b 2)), (1, .ref (eA E b 15))]) S.1 S.2.1 dX3_value_102 hl (k := 4) rfl (by rw [ex3_23]; rfl) (by decide) rfl (fun ls hl => ?_)
              refine lv_goto (tgt := 4) S.1 S.2.1 dX3_value_105 (by decide) ?_
              exact ih4 _ _ _ _ hf _ _ _ hP hD hS (lv_sub hl [3, 4, 1, 0] rfl)
        · have hf := hf.2 h_8
          refine lv_iload_n S.1 S.2.1 dX3_value_27 rfl (lv_at hl 3 rfl) ?_
          refine lv_iconst (v := 2) S.1 S.2.1 dX3_value_28 rfl ?_
          refine lv_icmp_lt (tgt := 102) S.1 S.2.1 dX3_value_29 (by decide) (fun h_24 => ?_) (fun h_24 => ?_)
          · have hf := hf.1 h_24
            refine nm_o hf (fun x3_25 ex3_25 hf => ?_)
            refine lv_iinc (v := x3_25) (lv' := [(3, .int x3_25), (4, .int x4_7), (0, .ref (eA E b 2)), (1, .ref (eA E b 15)), (2, .int x2_1)]) S.1 S.2.1 dX3_value_102 hl (k := 4) rfl (by rw [ex3_25]; rfl) (by decide) rfl (fun ls hl => ?_)
            refine lv_goto (tgt := 4) S.1 S.2.1 dX3_value_105 (by decide) ?_
            exact ih4 _ _ _ _ hf _ _ _ hP hD hS (lv_sub hl [2, 3, 4, 0] rfl)
          · have hf := hf.2 h_24
            refine nm_o hf (fun x2_26 ex2_26 hf => ?_)
            refine lv_iinc (v := x2_26) (lv' := [(2, .int x2_26), (4, .int x4_7), (0, .ref (eA E b 2)), (1, .ref (eA E b 15)), (3, .int x3_2)]) S.1 S.2.1 dX3_value_32 hl (k := 3) rfl (by rw [ex2_26]; rfl) (by decide) rfl (fun ls hl => ?_)
            refine lv_aload_n S.1 S.2.1 dX3_value_35 rfl (lv_at hl 2 rfl) ?_
            refine gfX3_1 S iX3 hK hP hB (hM 2 (by decide)) k3 dX3_value_36 ?_
            refine lv_iload_n S.1 S.2.1 dX3_value_39 rfl (lv_at hl 0 rfl) ?_
            refine lv_iconst (v := 1) S.1 S.2.1 dX3_value_40 rfl ?_
            refine lv_isub S.1 S.2.1 dX3_value_41 ?_
            refine lv_iload S.1 S.2.1 dX3_value_42 (lv_at hl 1 rfl) ?_
            refine lv_aload_n S.1 S.2.1 dX3_value_44 rfl (lv_at hl 2 rfl) ?_
            refine gfX3_1 S iX3 hK hP hB (hM 2 (by decide)) k3 dX3_value_45 ?_
            refine lv_iload_n S.1 S.2.1 dX3_value_48 rfl (lv_at hl 0 rfl) ?_
            refine lv_iconst (v := 1) S.1 S.2.1 dX3_value_49 rfl ?_
            refine lv_isub S.1 S.2.1 dX3_value_50 ?_
            obtain ⟨h_27, hf⟩ := hf
            refine R_iald S.1 S.2.1 hK hP (hM 6 (by decide)) (IAg6 E hB) h_27 dX3_value_51 ?_
            refine lv_i2l S.1 S.2.1 dX3_value_52 rfl ?_
            refine lv_aload_n S.1 S.2.1 dX3_value_53 rfl (lv_at hl 2 rfl) ?_
            refine gfX3_1 S iX3 hK hP hB (hM 2 (by decide)) k3 dX3_value_54 ?_
            refine lv_iload_n S.1 S.2.1 dX3_value_57 rfl (lv_at hl 0 rfl) ?_
            obtain ⟨h_28, hf⟩ := hf
            refine R_iald S.1 S.2.1 hK hP (hM 6 (by decide)) (IAg6 E hB) h_28 dX3_value_58 ?_
            refine lv_i2l S.1 S.2.1 dX3_value_59 rfl ?_
            refine R_cSi (As := [.int x4_7, .long ((I_3 b 6 (x2_26 - (1 : Int32)).toNatClampNeg).toInt64), .long ((I_3 b 6 x2_26.toNatClampNeg).toInt64)]) (rest := [.int (x2_26 - (1 : Int32)), .ref (eA E b 6)]) S (c_X3_result   hf) gX3_value_X3_result rfl yk_X3_result ⟨⟨Nat.le_of_ble_eq_true rfl, Nat.le_of_ble_eq_true rfl⟩, rfl, rfl⟩ hK hP hD hS hX hA rfl hl.1 rfl (Nat.le_of_ble_eq_true rfl) ⟨Nat.zero_le _, Nat.zero_le _⟩ dX3_value_60 (fun v_31 I_29 J_30 H locs hf hP hD hS => ?_)
            obtain ⟨h_32, hf⟩ := hf
            refine nm_o hf (fun I_33 eI_33 hf => ?_)
            refine R_iast S.1 S.2.1 hK hP hD hS (hM 6 (by decide)) (IAg6 E hB) h_32 dX3_value_63 eI_33 (fun H locs hP hD hS => ?_)
            refine lv_goto (tgt := 102) S.1 S.2.1 dX3_value_64 (by decide) ?_
            refine nm_o hf (fun x3_34 ex3_34 hf => ?_)
            refine lv_iinc (v := x3_34) (lv' := [(3, .int x3_34), (2, .int x2_26), (4, .int x4_7), (0, .ref (eA E b 2)), (1, .ref (eA E b 15))]) S.1 S.2.1 dX3_value_102 hl (k := 4) rfl (by rw [ex3_34]; rfl) (by decide) rfl (fun ls hl => ?_)
            refine lv_goto (tgt := 4) S.1 S.2.1 dX3_value_105 (by decide) ?_
            exact ih4 _ _ _ _ hf _ _ _ hP hD hS (lv_sub hl [3, 4, 1, 0] rfl)
  refine L4 _ (fun I_35 J_36 hf H locs ls hP hD hS hl => ?_)  n_38 _ _ _ _ hf _ _ _ hP hD hS (lv_sub hl [2, 3, 1, 0] rfl)
  refine lv_aload_n S.1 S.2.1 dX3_value_108 rfl (lv_at hl 0 rfl) ?_
  refine gfX3_1 S iX3 hK hP hB (hM 2 (by decide)) k3 dX3_value_109 ?_
  refine lv_iconst (v := 0) S.1 S.2.1 dX3_value_112 rfl ?_
  obtain ⟨h_37, hf⟩ := hf
  refine R_iald S.1 S.2.1 hK hP (hM 6 (by decide)) (IAg6 E hB) h_37 dX3_value_113 ?_
  exact hret hf rfl hP hD hS dX3_value_114
abbrev rmX4_reset : Room := { frames := 2, cells := 0, slots := 0, locals := 41 }
theorem yk_X4_reset : yOk yX4_reset RX4 0 := by unfold yOk; decide +kernel
def f_X4_reset_B18 (b : Nat) (K40 : MI → MJ → Prop) (rec18 : Int32 → MI → MJ → Prop) (x1_5 : Int32) (I_6 : MI) (J_7 : MJ) : Prop :=
  (((32 : Int32) ≤ x1_5 → K40 I_6 J_7) ∧ (¬ (32 : Int32) ≤ x1_5 → (vp_in x1_5 32 ∧ ∀ I_10 : MI, I_10 = sI I_6 b 4 x1_5.toNatClampNeg x1_5 → ∀ x1_11 : Int32, x1_11 = x1_5 + (1 : Int32) → rec18 x1_11 I_10 J_7)))
def f_X4_reset_L18 (b : Nat) (K40 : MI → MJ → Prop) : Nat → Int32 → MI → MJ → Prop
  | 0, _, _, _ => False
  | n + 1, x1_5, I_6, J_7 => f_X4_reset_B18 b K40 (f_X4_reset_L18 b K40 n) x1_5 I_6 J_7
def f_X4_reset (b : Nat) (I : MI) (J : MJ) (Q : MI → MJ → Prop) : Prop :=
  f_J7_fill_53178 b 3 6 (0 : Int32) I J (fun (I_1 : MI) (J_2 : MJ) => (vp_in (0 : Int32) 6 ∧ ∀ I_4 : MI, I_4 = sI I_1 b 3 (0 : Int32).toNatClampNeg (10 : Int32) → ∃ n : Nat, f_X4_reset_L18 b (fun (I_12 : MI) (J_13 : MJ) => f_X3_reset b I_12 J_13 (fun (I_14 : MI) (J_15 : MJ) => ∀ I_16 : MI, I_16 = sI I_14 b 1 3 (1 : Int32) → ∀ I_17 : MI, I_17 = sI I_16 b 1 4 (2 : Int32) → ∀ I_18 : MI, I_18 = sI I_17 b 1 5 (2 : Int32) → ∀ I_19 : MI, I_19 = sI I_18 b 1 6 (1 : Int32) → ∀ I_20 : MI, I_20 = sI I_19 b 1 7 (5 : Int32) → Q I_20 J_15)) n (0 : Int32) I_4 J_2))
set_option maxRecDepth 100000 in
set_option maxHeartbeats 4000000 in
theorem c_X4_reset {l : Launch} {E : EV} {ps : List (Nat × Nat)} {b : Nat} (hB : b < 11) (hM : ∀ r, r < 16 → (b, r) ∈ ps) {I : MI} {J : MJ} {Q : MI → MJ → Prop} (hf : f_X4_reset b I J Q) : KV l yX4_reset wsX4_reset rmX4_reset E ps [.ref (eA E b 1)] I J Q := by
  refine K_ofV (cc := cX4_reset) (maxL := 2) (by decide +kernel) rfl (Nat.le_of_ble_eq_true rfl) (fun p e s m args below meth c Qm hret S hK hX => ?_)
  have hA : ∀ q, s.heap.size ≤ q → AA E ps s.heap.size q := fun _ h => Or.inr h
  have k1 := S.2.2.2.2 (.fieldLink RX4 9 "RhymeRoofs$Rules" "tiles" "[I") (by decide +kernel)
  have iX4 : ∀ w ∈ wsX40, w ∈ wsX4_reset := fun _ h => List.mem_cons_of_mem _ (List.mem_append_left _ (List.mem_append_right _ h))
  have k2 := S.2.2.2.2 (.fieldLink RX4 17 "RhymeRoofs$Rules" "groups" "[I") (by decide +kernel)
  have k3 := S.2.2.2.2 (.fieldLink RX4 23 "RhymeRoofs$Rules" "rank" "LRhymeRoofs$Rank;") (by decide +kernel)
  have k4 := S.2.2.2.2 (.fieldLink RX4 36 "RhymeRoofs$Rules" "rows" "I") (by decide +kernel)
  have k5 := S.2.2.2.2 (.fieldLink RX4 40 "RhymeRoofs$Rules" "players" "I") (by decide +kernel)
  have k6 := S.2.2.2.2 (.fieldLink RX4 43 "RhymeRoofs$Rules" "need" "I") (by decide +kernel)
  have k7 := S.2.2.2.2 (.fieldLink RX4 46 "RhymeRoofs$Rules" "bonus" "I") (by decide +kernel)
  have k8 := S.2.2.2.2 (.fieldLink RX4 49 "RhymeRoofs$Rules" "crown" "I") (by decide +kernel)
  intro H locs ls hP hD hS hl
  unfold f_X4_reset at hf
  refine lv_aload_n S.1 S.2.1 dX4_reset_0 rfl (lv_at hl 0 rfl) ?_
  refine gfX4_0 S iX4 hK hP hB (hM 1 (by decide)) k1 dX4_reset_1 ?_
  refine lv_iconst (v := 0) S.1 S.2.1 dX4_reset_4 rfl ?_
  refine R_cSv (As := [.ref (eA E b 3), .int (0 : Int32)]) (rest := []) S (c_J7_fill_53178  (hm1 := (hM 3 (by decide))) (hc1 := (IAg3 E hB)) hf) gX4_reset_J7_fill_53178 rfl yk_J7_fill_53178 ⟨⟨Nat.le_of_ble_eq_true rfl, Nat.le_of_ble_eq_true rfl⟩, rfl, rfl⟩ hK hP hD hS hX hA rfl hl.1 rfl (Nat.le_of_ble_eq_true rfl) ⟨Nat.zero_le _, Nat.zero_le _⟩ dX4_reset_5 (fun I_1 J_2 H locs hf hP hD hS => ?_)
  refine lv_aload_n S.1 S.2.1 dX4_reset_8 rfl (lv_at hl 0 rfl) ?_
  refine gfX4_0 S iX4 hK hP hB (hM 1 (by decide)) k1 dX4_reset_9 ?_
  refine lv_iconst (v := 0) S.1 S.2.1 dX4_reset_12 rfl ?_
  refine lv_bipush (v := 10) S.1 S.2.1 dX4_reset_13 rfl ?_
  obtain ⟨h_3, hf⟩ := hf
  refine nm_o hf (fun I_4 eI_4 hf => ?_)
  refine R_iast S.1 S.2.1 hK hP hD hS (hM 3 (by decide)) (IAg3 E hB) h_3 dX4_reset_15 eI_4 (fun H locs hP hD hS => ?_)
  refine lv_iconst (v := 0) S.1 S.2.1 dX4_reset_16 rfl ?_
  refine lv_istore_n (lv' := [(1, .int (0 : Int32)), (0, .ref (eA E b 1))]) S.1 S.2.1 dX4_reset_17 rfl hl (by decide) rfl (fun ls hl => ?_)
  obtain ⟨n_21, hf⟩ := hf
  have L18 : ∀ (K40 : MI → MJ → Prop), (∀ (I_12 : MI) (J_13 : MJ), K40 I_12 J_13 → Wj p l e (rmX4_reset) s m args below meth c Qm E ps 2 I_12 J_13 40 [(0, .ref (eA E b 1))] []) → ∀ (n : Nat) (x1_5 : Int32) (I_6 : MI) (J_7 : MJ), f_X4_reset_L18 b K40 n x1_5 I_6 J_7 → Wj p l e (rmX4_reset) s m args below meth c Qm E ps 2 I_6 J_7 18 [(0, .ref (eA E b 1)), (1, .int x1_5)] [] := by
    intro K40 kx40 n
    induction n with
    | zero => intro x1_5 I_6 J_7 hf; exact hf.elim
    | succ n ih18 =>
      intro x1_5 I_6 J_7 hf
      have hf : f_X4_reset_B18 b K40 (f_X4_reset_L18 b K40 n) x1_5 I_6 J_7 := hf
      intro H locs ls hP hD hS hl
      unfold f_X4_reset_B18 at hf
      refine lv_iload_n S.1 S.2.1 dX4_reset_18 rfl (lv_at hl 1 rfl) ?_
      refine lv_aload_n S.1 S.2.1 dX4_reset_19 rfl (lv_at hl 0 rfl) ?_
      refine gfX4_1 S iX4 hK hP hB (hM 1 (by decide)) k2 dX4_reset_20 ?_
      refine R_alenI S.1 S.2.1 hK hP (hM 4 (by decide)) (IAg4 E hB) dX4_reset_23 ?_
      refine lv_icmp_ge (tgt := 40) S.1 S.2.1 dX4_reset_24 (by decide) (fun h_8 => ?_) (fun h_8 => ?_)
      · have hf := hf.1 h_8
        exact kx40 _ _ hf _ _ _ hP hD hS (lv_sub hl [0] rfl)
      · have hf := hf.2 h_8
        refine lv_aload_n S.1 S.2.1 dX4_reset_27 rfl (lv_at hl 0 rfl) ?_
        refine gfX4_1 S iX4 hK hP hB (hM 1 (by decide)) k2 dX4_reset_28 ?_
        refine lv_iload_n S.1 S.2.1 dX4_reset_31 rfl (lv_at hl 1 rfl) ?_
        refine lv_iload_n S.1 S.2.1 dX4_reset_32 rfl (lv_at hl 1 rfl) ?_
        obtain ⟨h_9, hf⟩ := hf
        refine nm_o hf (fun I_10 eI_10 hf => ?_)
        refine R_iast S.1 S.2.1 hK hP hD hS (hM 4 (by decide)) (IAg4 E hB) h_9 dX4_reset_33 eI_10 (fun H locs hP hD hS => ?_)
        refine nm_o hf (fun x1_11 ex1_11 hf => ?_)
        refine lv_iinc (v := x1_11) (lv' := [(1, .int x1_11), (0, .ref (eA E b 1))]) S.1 S.2.1 dX4_reset_34 hl (k := 1) rfl (by rw [ex1_11]; rfl) (by decide) rfl (fun ls hl => ?_)
        refine lv_goto (tgt := 18) S.1 S.2.1 dX4_reset_37 (by decide) ?_
        exact ih18 _ _ _ hf _ _ _ hP hD hS (lv_sub hl [1, 0] rfl)
  refine L18 _ (fun I_12 J_13 hf H locs ls hP hD hS hl => ?_)  n_21 _ _ _ hf _ _ _ hP hD hS (lv_sub hl [1, 0] rfl)
  refine lv_aload_n S.1 S.2.1 dX4_reset_40 rfl (lv_at hl 0 rfl) ?_
  refine gfX4_2 S iX4 hK hP hB (hM 1 (by decide)) k3 dX4_reset_41 ?_
  refine R_cVv (As := []) (rest := []) S (c_X3_reset (hB := hB) (hM := hM)  hf) gX4_reset_X3_reset rfl yk_X3_reset ⟨⟨Nat.le_of_ble_eq_true rfl, Nat.le_of_ble_eq_true rfl⟩, rfl, rfl⟩ hK hP hD hS hX hA (hM 2 (by decide)) (cF_g E hB _ _ 2) rfl rfl hl.1 rfl (Nat.le_of_ble_eq_true rfl) ⟨Nat.zero_le _, Nat.zero_le _⟩ dX4_reset_44 (fun I_14 J_15 H locs hf hP hD hS => ?_)
  refine lv_aload_n S.1 S.2.1 dX4_reset_47 rfl (lv_at hl 0 rfl) ?_
  refine lv_iconst (v := 1) S.1 S.2.1 dX4_reset_48 rfl ?_
  refine nm_o hf (fun I_16 eI_16 hf => ?_)
  refine pfX4_3 S iX4 hK hP hD hS hB (hM 1 (by decide)) k4 dX4_reset_49 eI_16 (fun H locs hP hD hS => ?_)
  refine lv_aload_n S.1 S.2.1 dX4_reset_52 rfl (lv_at hl 0 rfl) ?_
  refine lv_iconst (v := 2) S.1 S.2.1 dX4_reset_53 rfl ?_
  refine nm_o hf (fun I_17 eI_17 hf => ?_)
  refine pfX4_4 S iX4 hK hP hD hS hB (hM 1 (by decide)) k5 dX4_reset_54 eI_17 (fun H locs hP hD hS => ?_)
  refine lv_aload_n S.1 S.2.1 dX4_reset_57 rfl (lv_at hl 0 rfl) ?_
  refine lv_iconst (v := 2) S.1 S.2.1 dX4_reset_58 rfl ?_
  refine nm_o hf (fun I_18 eI_18 hf => ?_)
  refine pfX4_5 S iX4 hK hP hD hS hB (hM 1 (by decide)) k6 dX4_reset_59 eI_18 (fun H locs hP hD hS => ?_)
  refine lv_aload_n S.1 S.2.1 dX4_reset_62 rfl (lv_at hl 0 rfl) ?_
  refine lv_iconst (v := 1) S.1 S.2.1 dX4_reset_63 rfl ?_
  refine nm_o hf (fun I_19 eI_19 hf => ?_)
  refine pfX4_6 S iX4 hK hP hD hS hB (hM 1 (by decide)) k7 dX4_reset_64 eI_19 (fun H locs hP hD hS => ?_)
  refine lv_aload_n S.1 S.2.1 dX4_reset_67 rfl (lv_at hl 0 rfl) ?_
  refine lv_iconst (v := 5) S.1 S.2.1 dX4_reset_68 rfl ?_
  refine nm_o hf (fun I_20 eI_20 hf => ?_)
  refine pfX4_7 S iX4 hK hP hD hS hB (hM 1 (by decide)) k8 dX4_reset_69 eI_20 (fun H locs hP hD hS => ?_)
  exact hret hf hP hD hS dX4_reset_72
