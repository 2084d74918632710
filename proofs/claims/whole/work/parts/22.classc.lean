abbrev rmX0_extend : Room := { frames := 2, cells := 0, slots := 0, locals := 89 }
theorem yk_X0_extend : yOk yX0_extend RX0 1 := by unfold yOk; decide +kernel
def f_X0_extend_J155 (K193 : MI → MJ → Prop) (rec47 : Int32 → MI → MJ → Prop) (x1_17 : Int32) (x2_18 : Int32) (x3_19 : Int32) (x4_20 : Int32) (x5_21 : Int32) (x6_46 : Int32) (s_47 : Int32) (s_48 : Int32) (I_49 : MI) (J_50 : MJ) : Prop :=
  ∀ x9_51 : Int32, x9_51 = (s_48 + s_47) → (vp_in x5_21 2048 ∧ (vp_in x5_21 2048 ∧ f_X0_note (x1_17 ||| ((1 : Int32) <<< (x6_46 &&& 31))) x6_46 (I_49 11 7 x5_21.toNatClampNeg) ((I_49 11 8 x5_21.toNatClampNeg) + x9_51) I_49 J_50 (fun (I_54 : MI) (J_55 : MJ) => ∀ x6_56 : Int32, x6_56 = x6_46 + (1 : Int32) → rec47 x6_56 I_54 J_55)))
def f_X0_extend_J95 (K193 : MI → MJ → Prop) (rec47 : Int32 → MI → MJ → Prop) (x1_17 : Int32) (x2_18 : Int32) (x3_19 : Int32) (x4_20 : Int32) (x5_21 : Int32) (x6_31 : Int32) (x7_32 : Int32) (s_33 : Int32) (I_34 : MI) (J_35 : MJ) : Prop :=
  ((s_33 = (0 : Int32) → ∀ x6_37 : Int32, x6_37 = x6_31 + (1 : Int32) → rec47 x6_37 I_34 J_35) ∧ (¬ s_33 = (0 : Int32) → ((x7_32 = (-1 : Int32) → ∀ x6_39 : Int32, x6_39 = x6_31 + (1 : Int32) → rec47 x6_39 I_34 J_35) ∧ (¬ x7_32 = (-1 : Int32) → (vp_in x6_31 8 ∧ ((x2_18 < (I_34 11 9 x6_31.toNatClampNeg) → ∀ x6_42 : Int32, x6_42 = x6_31 + (1 : Int32) → rec47 x6_42 I_34 J_35) ∧ (¬ x2_18 < (I_34 11 9 x6_31.toNatClampNeg) → (vp_in x6_31 8 ∧ (vp_in x6_31 8 ∧ (((I_34 11 9 x6_31.toNatClampNeg) = x2_18 → f_X0_extend_J155 K193 rec47 x1_17 x2_18 x3_19 x4_20 x5_21 x6_31 ((I_34 11 6 11) * x3_19) ((I_34 11 9 x6_31.toNatClampNeg) + ((I_34 11 6 10) * x7_32)) I_34 J_35) ∧ (¬ (I_34 11 9 x6_31.toNatClampNeg) = x2_18 → f_X0_extend_J155 K193 rec47 x1_17 x2_18 x3_19 x4_20 x5_21 x6_31 (0 : Int32) ((I_34 11 9 x6_31.toNatClampNeg) + ((I_34 11 6 10) * x7_32)) I_34 J_35)))))))))))
def f_X0_extend_B47 (x1_17 : Int32) (x2_18 : Int32) (x3_19 : Int32) (x4_20 : Int32) (x5_21 : Int32) (K193 : MI → MJ → Prop) (rec47 : Int32 → MI → MJ → Prop) (x6_22 : Int32) (I_23 : MI) (J_24 : MJ) : Prop :=
  (((I_23 11 6 7) ≤ x6_22 → K193 I_23 J_24) ∧ (¬ (I_23 11 6 7) ≤ x6_22 → (vp_in x5_21 2048 ∧ (((I_23 11 7 x5_21.toNatClampNeg) ≤ (0 : Int32) → K193 I_23 J_24) ∧ (¬ (I_23 11 7 x5_21.toNatClampNeg) ≤ (0 : Int32) → (vp_in ((x4_20 * (8 : Int32)) + x6_22) 64 ∧ ∀ x7_29 : Int32, x7_29 = I_23 11 10 ((x4_20 * (8 : Int32)) + x6_22).toNatClampNeg → (((x1_17 &&& ((1 : Int32) <<< (x6_22 &&& 31))) = (0 : Int32) → f_X0_extend_J95 K193 rec47 x1_17 x2_18 x3_19 x4_20 x5_21 x6_22 x7_29 (1 : Int32) I_23 J_24) ∧ (¬ (x1_17 &&& ((1 : Int32) <<< (x6_22 &&& 31))) = (0 : Int32) → f_X0_extend_J95 K193 rec47 x1_17 x2_18 x3_19 x4_20 x5_21 x6_22 x7_29 (0 : Int32) I_23 J_24))))))))
def f_X0_extend_L47 (x1_17 : Int32) (x2_18 : Int32) (x3_19 : Int32) (x4_20 : Int32) (x5_21 : Int32) (K193 : MI → MJ → Prop) : Nat → Int32 → MI → MJ → Prop
  | 0, _, _, _ => False
  | n + 1, x6_22, I_23, J_24 => f_X0_extend_B47 x1_17 x2_18 x3_19 x4_20 x5_21 K193 (f_X0_extend_L47 x1_17 x2_18 x3_19 x4_20 x5_21 K193 n) x6_22 I_23 J_24
def f_X0_extend_B26 (x1_9 : Int32) (x2_10 : Int32) (x3_11 : Int32) (K199 : MI → MJ → Prop) (rec26 : Int32 → MI → MJ → Prop) (x4_12 : Int32) (I_13 : MI) (J_14 : MJ) : Prop :=
  (((I_13 11 6 7) ≤ x4_12 → K199 I_13 J_14) ∧ (¬ (I_13 11 6 7) ≤ x4_12 → ∀ x5_16 : Int32, x5_16 = ((x1_9 * (8 : Int32)) + x4_12) → ∃ n : Nat, f_X0_extend_L47 x1_9 x2_10 x3_11 x4_12 x5_16 (fun (I_57 : MI) (J_58 : MJ) => ∀ x4_59 : Int32, x4_59 = x4_12 + (1 : Int32) → rec26 x4_59 I_57 J_58) n (0 : Int32) I_13 J_14))
def f_X0_extend_L26 (x1_9 : Int32) (x2_10 : Int32) (x3_11 : Int32) (K199 : MI → MJ → Prop) : Nat → Int32 → MI → MJ → Prop
  | 0, _, _, _ => False
  | n + 1, x4_12, I_13, J_14 => f_X0_extend_B26 x1_9 x2_10 x3_11 K199 (f_X0_extend_L26 x1_9 x2_10 x3_11 K199 n) x4_12 I_13 J_14
def f_X0_extend (x1 : Int32) (I : MI) (J : MJ) (Q : MI → MJ → Prop) : Prop :=
  f_X0_lettersOf x1 I J (fun (v_3 : Int32) (I_1 : MI) (J_2 : MJ) => ∀ x2_4 : Int32, x2_4 = ((I 11 6 8) - v_3) → f_J6_bitCount_0f7a4 x1 I_1 J_2 (fun (v_7 : Int32) (I_5 : MI) (J_6 : MJ) => ∀ x3_8 : Int32, x3_8 = (((I_1 11 6 9) + v_7) + (1 : Int32)) → ∃ n : Nat, f_X0_extend_L26 x1 x2_4 x3_8 (fun (I_61 : MI) (J_62 : MJ) => Q I_61 J_62) n (0 : Int32) I_5 J_6))
set_option maxRecDepth 100000 in
set_option maxHeartbeats 4000000 in
theorem c_X0_extend {l : Launch} {E : EV} {ps : List (Nat × Nat)} (h11 : ∀ r, r < 11 → (11, r) ∈ ps) {x1 : Int32} {I : MI} {J : MJ} {Q : MI → MJ → Prop} (hf : f_X0_extend x1 I J Q) : KV l yX0_extend wsX0_extend rmX0_extend E ps [.ref (eA E 11 6), .int x1] I J Q := by
  refine K_ofV (cc := cX0_extend) (maxL := 10) (by decide +kernel) rfl (Nat.le_of_ble_eq_true rfl) (fun p e s m args below meth c Qm hret S hK hX => ?_)
  have hA : ∀ q, s.heap.size ≤ q → AA E ps s.heap.size q := fun _ h => Or.inr h
  have k1 := S.2.2.2.2 (.fieldLink RX0 75 "RhymeRoofs$Chains" "free" "I") (by decide +kernel)
  have iX0 : ∀ w ∈ wsX00, w ∈ wsX0_extend := fun _ h => List.mem_cons_of_mem _ (List.mem_append_right _ h)
  have k2 := S.2.2.2.2 (.fieldLink RX0 81 "RhymeRoofs$Chains" "wordsBefore" "I") (by decide +kernel)
  have k3 := S.2.2.2.2 (.fieldLink RX0 44 "RhymeRoofs$Chains" "size" "I") (by decide +kernel)
  have k4 := S.2.2.2.2 (.fieldLink RX0 11 "RhymeRoofs$Chains" "ways" "[I") (by decide +kernel)
  have k5 := S.2.2.2.2 (.fieldLink RX0 21 "RhymeRoofs$Chains" "rhymes" "[I") (by decide +kernel)
  have k6 := S.2.2.2.2 (.fieldLink RX0 18 "RhymeRoofs$Chains" "lengths" "[I") (by decide +kernel)
  have k7 := S.2.2.2.2 (.fieldLink RX0 93 "RhymeRoofs$Chains" "bonus" "I") (by decide +kernel)
  have k8 := S.2.2.2.2 (.fieldLink RX0 15 "RhymeRoofs$Chains" "bestPoints" "[I") (by decide +kernel)
  have k9 := S.2.2.2.2 (.fieldLink RX0 97 "RhymeRoofs$Chains" "crown" "I") (by decide +kernel)
  intro H locs ls hP hD hS hl
  unfold f_X0_extend at hf
  refine lv_aload_n S.1 S.2.1 dX0_extend_0 rfl (lv_at hl 0 rfl) ?_
  refine gfX0_8 S iX0 hK hP (h11 6 (by decide)) k1 dX0_extend_1 ?_
  refine lv_aload_n S.1 S.2.1 dX0_extend_4 rfl (lv_at hl 0 rfl) ?_
  refine lv_iload_n S.1 S.2.1 dX0_extend_5 rfl (lv_at hl 1 rfl) ?_
  refine R_cVi (As := [.int x1]) (rest := [.int (I 11 6 8)]) S (c_X0_lettersOf (h11 := h11)  hf) gX0_extend_X0_lettersOf rfl yk_X0_lettersOf ⟨⟨Nat.le_of_ble_eq_true rfl, Nat.le_of_ble_eq_true rfl⟩, rfl, rfl⟩ hK hP hD hS hX hA (h11 6 (by decide)) (cF_o E _ _ 6) rfl rfl hl.1 rfl (Nat.le_of_ble_eq_true rfl) ⟨Nat.zero_le _, Nat.zero_le _⟩ dX0_extend_6 (fun v_3 I_1 J_2 H locs hf hP hD hS => ?_)
  refine lv_isub S.1 S.2.1 dX0_extend_9 ?_
  refine lv_topi (fun x2_4 ex2_4 => ?_)
  have hf := hf x2_4 ex2_4
  refine lv_istore_n (lv' := [(2, .int x2_4), (0, .ref (eA E 11 6)), (1, .int x1)]) S.1 S.2.1 dX0_extend_10 rfl hl (by decide) rfl (fun ls hl => ?_)
  refine lv_aload_n S.1 S.2.1 dX0_extend_11 rfl (lv_at hl 1 rfl) ?_
  refine gfX0_9 S iX0 hK hP (h11 6 (by decide)) k2 dX0_extend_12 ?_
  refine lv_iload_n S.1 S.2.1 dX0_extend_15 rfl (lv_at hl 2 rfl) ?_
  refine R_cSi (As := [.int x1]) (rest := [.int (I_1 11 6 9)]) S (c_J6_bitCount_0f7a4   hf) gX0_extend_J6_bitCount_0f7a4 rfl yk_J6_bitCount_0f7a4 ⟨⟨Nat.le_of_ble_eq_true rfl, Nat.le_of_ble_eq_true rfl⟩, rfl, rfl⟩ hK hP hD hS hX hA rfl hl.1 rfl (Nat.le_of_ble_eq_true rfl) ⟨Nat.zero_le _, Nat.zero_le _⟩ dX0_extend_16 (fun v_7 I_5 J_6 H locs hf hP hD hS => ?_)
  refine lv_iadd S.1 S.2.1 dX0_extend_19 ?_
  refine lv_iconst (v := 1) S.1 S.2.1 dX0_extend_20 rfl ?_
  refine lv_iadd S.1 S.2.1 dX0_extend_21 ?_
  refine lv_topi (fun x3_8 ex3_8 => ?_)
  have hf := hf x3_8 ex3_8
  refine lv_istore_n (lv' := [(3, .int x3_8), (2, .int x2_4), (0, .ref (eA E 11 6)), (1, .int x1)]) S.1 S.2.1 dX0_extend_22 rfl hl (by decide) rfl (fun ls hl => ?_)
  refine lv_iconst (v := 0) S.1 S.2.1 dX0_extend_23 rfl ?_
  refine lv_istore (lv' := [(4, .int (0 : Int32)), (3, .int x3_8), (2, .int x2_4), (0, .ref (eA E 11 6)), (1, .int x1)]) S.1 S.2.1 dX0_extend_24 hl (by decide) rfl (fun ls hl => ?_)
  obtain ⟨n_63, hf⟩ := hf
  have L26 : ∀ (x1_9 : Int32), ∀ (x2_10 : Int32), ∀ (x3_11 : Int32), ∀ (K199 : MI → MJ → Prop), (∀ (I_61 : MI) (J_62 : MJ), K199 I_61 J_62 → Wj p l e (rmX0_extend) s m args below meth c Qm E ps 10 I_61 J_62 199 [] []) → ∀ (n : Nat) (x4_12 : Int32) (I_13 : MI) (J_14 : MJ), f_X0_extend_L26 x1_9 x2_10 x3_11 K199 n x4_12 I_13 J_14 → Wj p l e (rmX0_extend) s m args below meth c Qm E ps 10 I_13 J_14 26 [(0, .ref (eA E 11 6)), (1, .int x1_9), (2, .int x2_10), (3, .int x3_11), (4, .int x4_12)] [] := by
    intro x1_9 x2_10 x3_11 K199 kx199 n
    induction n with
    | zero => intro x4_12 I_13 J_14 hf; exact hf.elim
    | succ n ih26 =>
      intro x4_12 I_13 J_14 hf
      have hf : f_X0_extend_B26 x1_9 x2_10 x3_11 K199 (f_X0_extend_L26 x1_9 x2_10 x3_11 K199 n) x4_12 I_13 J_14 := hf
      intro H locs ls hP hD hS hl
      unfold f_X0_extend_B26 at hf
      refine lv_iload S.1 S.2.1 dX0_extend_26 (lv_at hl 4 rfl) ?_
      refine lv_aload_n S.1 S.2.1 dX0_extend_28 rfl (lv_at hl 0 rfl) ?_
      refine gfX0_7 S iX0 hK hP (h11 6 (by decide)) k3 dX0_extend_29 ?_
      refine lv_icmp_ge (tgt := 199) S.1 S.2.1 dX0_extend_32 (by decide) (fun h_15 => ?_) (fun h_15 => ?_)
      · have hf := hf.1 h_15
        exact kx199 _ _ hf _ _ _ hP hD hS (lv_sub hl [] rfl)
      · have hf := hf.2 h_15
        refine lv_iload_n S.1 S.2.1 dX0_extend_35 rfl (lv_at hl 1 rfl) ?_
        refine lv_bipush (v := 8) S.1 S.2.1 dX0_extend_36 rfl ?_
        refine lv_imul S.1 S.2.1 dX0_extend_38 ?_
        refine lv_iload S.1 S.2.1 dX0_extend_39 (lv_at hl 4 rfl) ?_
        refine lv_iadd S.1 S.2.1 dX0_extend_41 ?_
        refine lv_topi (fun x5_16 ex5_16 => ?_)
        have hf := hf x5_16 ex5_16
        refine lv_istore (lv' := [(5, .int x5_16), (0, .ref (eA E 11 6)), (1, .int x1_9), (2, .int x2_10), (3, .int x3_11), (4, .int x4_12)]) S.1 S.2.1 dX0_extend_42 hl (by decide) rfl (fun ls hl => ?_)
        refine lv_iconst (v := 0) S.1 S.2.1 dX0_extend_44 rfl ?_
        refine lv_istore (lv' := [(6, .int (0 : Int32)), (5, .int x5_16), (0, .ref (eA E 11 6)), (1, .int x1_9), (2, .int x2_10), (3, .int x3_11), (4, .int x4_12)]) S.1 S.2.1 dX0_extend_45 hl (by decide) rfl (fun ls hl => ?_)
        obtain ⟨n_60, hf⟩ := hf
        have L47 : ∀ (x1_17 : Int32), ∀ (x2_18 : Int32), ∀ (x3_19 : Int32), ∀ (x4_20 : Int32), ∀ (x5_21 : Int32), ∀ (K193 : MI → MJ → Prop), (∀ (I_57 : MI) (J_58 : MJ), K193 I_57 J_58 → Wj p l e (rmX0_extend) s m args below meth c Qm E ps 10 I_57 J_58 193 [(0, .ref (eA E 11 6)), (1, .int x1_17), (2, .int x2_18), (3, .int x3_19), (4, .int x4_20)] []) → ∀ (n : Nat) (x6_22 : Int32) (I_23 : MI) (J_24 : MJ), f_X0_extend_L47 x1_17 x2_18 x3_19 x4_20 x5_21 K193 n x6_22 I_23 J_24 → Wj p l e (rmX0_extend) s m args below meth c Qm E ps 10 I_23 J_24 47 [(0, .ref (eA E 11 6)), (1, .int x1_17), (2, .int x2_18), (3, .int x3_19), (4, .int x4_20), (5, .int x5_21), (6, .int x6_22)] [] := by
          intro x1_17 x2_18 x3_19 x4_20 x5_21 K193 kx193 n
          induction n with
          | zero => intro x6_22 I_23 J_24 hf; exact hf.elim
          | succ n ih47 =>
            intro x6_22 I_23 J_24 hf
            have hf : f_X0_extend_B47 x1_17 x2_18 x3_19 x4_20 x5_21 K193 (f_X0_extend_L47 x1_17 x2_18 x3_19 x4_20 x5_21 K193 n) x6_22 I_23 J_24 := hf
            have jn155 : ∀ (x6_46 : Int32) (s_47 : Int32) (s_48 : Int32) (I_49 : MI) (J_50 : MJ), f_X0_extend_J155 K193 (f_X0_extend_L47 x1_17 x2_18 x3_19 x4_20 x5_21 K193 n) x1_17 x2_18 x3_19 x4_20 x5_21 x6_46 s_47 s_48 I_49 J_50 → Wj p l e (rmX0_extend) s m args below meth c Qm E ps 10 I_49 J_50 155 [(0, .ref (eA E 11 6)), (1, .int x1_17), (2, .int x2_18), (3, .int x3_19), (4, .int x4_20), (5, .int x5_21), (6, .int x6_46)] [.int s_47, .int s_48] := by
              intro x6_46 s_47 s_48 I_49 J_50 hf H locs ls hP hD hS hl
              unfold f_X0_extend_J155 at hf
              refine lv_iadd S.1 S.2.1 dX0_extend_155 ?_
              refine lv_topi (fun x9_51 ex9_51 => ?_)
              have hf := hf x9_51 ex9_51
              refine lv_istore (lv' := [(9, .int x9_51), (0, .ref (eA E 11 6)), (1, .int x1_17), (2, .int x2_18), (3, .int x3_19), (4, .int x4_20), (5, .int x5_21), (6, .int x6_46)]) S.1 S.2.1 dX0_extend_156 hl (by decide) rfl (fun ls hl => ?_)
              refine lv_aload_n S.1 S.2.1 dX0_extend_158 rfl (lv_at hl 1 rfl) ?_
              refine lv_iload_n S.1 S.2.1 dX0_extend_159 rfl (lv_at hl 2 rfl) ?_
              refine lv_iconst (v := 1) S.1 S.2.1 dX0_extend_160 rfl ?_
              refine lv_iload S.1 S.2.1 dX0_extend_161 (lv_at hl 7 rfl) ?_
              refine lv_ishl S.1 S.2.1 dX0_extend_163 ?_
              refine lv_ior S.1 S.2.1 dX0_extend_164 ?_
              refine lv_iload S.1 S.2.1 dX0_extend_165 (lv_at hl 7 rfl) ?_
              refine lv_aload_n S.1 S.2.1 dX0_extend_167 rfl (lv_at hl 1 rfl) ?_
              refine gfX0_3 S iX0 hK hP (h11 6 (by decide)) k4 dX0_extend_168 ?_
              refine lv_iload S.1 S.2.1 dX0_extend_171 (lv_at hl 6 rfl) ?_
              obtain ⟨h_52, hf⟩ := hf
              refine R_iald S.1 S.2.1 hK hP (h11 7 (by decide)) (IAo7 E) h_52 dX0_extend_173 ?_
              refine lv_aload_n S.1 S.2.1 dX0_extend_174 rfl (lv_at hl 1 rfl) ?_
              refine gfX0_4 S iX0 hK hP (h11 6 (by decide)) k8 dX0_extend_175 ?_
              refine lv_iload S.1 S.2.1 dX0_extend_178 (lv_at hl 6 rfl) ?_
              obtain ⟨h_53, hf⟩ := hf
              refine R_iald S.1 S.2.1 hK hP (h11 8 (by decide)) (IAo8 E) h_53 dX0_extend_180 ?_
              refine lv_iload S.1 S.2.1 dX0_extend_181 (lv_at hl 0 rfl) ?_
              refine lv_iadd S.1 S.2.1 dX0_extend_183 ?_
              refine R_cVv (As := [.int (x1_17 ||| ((1 : Int32) <<< (x6_46 &&& 31))), .int x6_46, .int (I_49 11 7 x5_21.toNatClampNeg), .int ((I_49 11 8 x5_21.toNatClampNeg) + x9_51)]) (rest := []) S (c_X0_note (h11 := h11)  hf) gX0_extend_X0_note rfl yk_X0_note ⟨⟨Nat.le_of_ble_eq_true rfl, Nat.le_of_ble_eq_true rfl⟩, rfl, rfl⟩ hK hP hD hS hX hA (h11 6 (by decide)) (cF_o E _ _ 6) rfl rfl hl.1 rfl (Nat.le_of_ble_eq_true rfl) ⟨Nat.zero_le _, Nat.zero_le _⟩ dX0_extend_184 (fun I_54 J_55 H locs hf hP hD hS => ?_)
              refine nm_o hf (fun x6_56 ex6_56 hf => ?_)
              refine lv_iinc (v := x6_56) (lv' := [(6, .int x6_56), (9, .int x9_51), (0, .ref (eA E 11 6)), (1, .int x1_17), (2, .int x2_18), (3, .int x3_19), (4, .int x4_20), (5, .int x5_21)]) S.1 S.2.1 dX0_extend_187 hl (k := 7) rfl (by rw [ex6_56]; rfl) (by decide) rfl (fun ls hl => ?_)
              refine lv_goto (tgt := 47) S.1 S.2.1 dX0_extend_190 (by decide) ?_
              exact ih47 _ _ _ hf _ _ _ hP hD hS (lv_sub hl [2, 3, 4, 5, 6, 7, 0] rfl)
            have jn95 : ∀ (x6_31 : Int32) (x7_32 : Int32) (s_33 : Int32) (I_34 : MI) (J_35 : MJ), f_X0_extend_J95 K193 (f_X0_extend_L47 x1_17 x2_18 x3_19 x4_20 x5_21 K193 n) x1_17 x2_18 x3_19 x4_20 x5_21 x6_31 x7_32 s_33 I_34 J_35 → Wj p l e (rmX0_extend) s m args below meth c Qm E ps 10 I_34 J_35 95 [(0, .ref (eA E 11 6)), (1, .int x1_17), (2, .int x2_18), (3, .int x3_19), (4, .int x4_20), (5, .int x5_21), (6, .int x6_31), (7, .int x7_32)] [.int s_33] := by
              intro x6_31 x7_32 s_33 I_34 J_35 hf H locs ls hP hD hS hl
              unfold f_X0_extend_J95 at hf
              refine lv_istore (lv' := [(8, .int s_33), (0, .ref (eA E 11 6)), (1, .int x1_17), (2, .int x2_18), (3, .int x3_19), (4, .int x4_20), (5, .int x5_21), (6, .int x6_31), (7, .int x7_32)]) S.1 S.2.1 dX0_extend_95 hl (by decide) rfl (fun ls hl => ?_)
              refine lv_iload S.1 S.2.1 dX0_extend_97 (lv_at hl 0 rfl) ?_
              refine lv_if_eq (tgt := 187) S.1 S.2.1 dX0_extend_99 (by decide) (fun h_36 => ?_) (fun h_36 => ?_)
              · have hf := hf.1 h_36
                refine nm_o hf (fun x6_37 ex6_37 hf => ?_)
                refine lv_iinc (v := x6_37) (lv' := [(6, .int x6_37), (8, .int s_33), (0, .ref (eA E 11 6)), (1, .int x1_17), (2, .int x2_18), (3, .int x3_19), (4, .int x4_20), (5, .int x5_21), (7, .int x7_32)]) S.1 S.2.1 dX0_extend_187 hl (k := 7) rfl (by rw [ex6_37]; rfl) (by decide) rfl (fun ls hl => ?_)
                refine lv_goto (tgt := 47) S.1 S.2.1 dX0_extend_190 (by decide) ?_
                exact ih47 _ _ _ hf _ _ _ hP hD hS (lv_sub hl [2, 3, 4, 5, 6, 7, 0] rfl)
              · have hf := hf.2 h_36
                refine lv_iload S.1 S.2.1 dX0_extend_102 (lv_at hl 8 rfl) ?_
                refine lv_iconst (v := (-1)) S.1 S.2.1 dX0_extend_104 rfl ?_
                refine lv_icmp_eq (tgt := 187) S.1 S.2.1 dX0_extend_105 (by decide) (fun h_38 => ?_) (fun h_38 => ?_)
                · have hf := hf.1 h_38
                  refine nm_o hf (fun x6_39 ex6_39 hf => ?_)
                  refine lv_iinc (v := x6_39) (lv' := [(6, .int x6_39), (8, .int s_33), (0, .ref (eA E 11 6)), (1, .int x1_17), (2, .int x2_18), (3, .int x3_19), (4, .int x4_20), (5, .int x5_21), (7, .int x7_32)]) S.1 S.2.1 dX0_extend_187 hl (k := 7) rfl (by rw [ex6_39]; rfl) (by decide) rfl (fun ls hl => ?_)
                  refine lv_goto (tgt := 47) S.1 S.2.1 dX0_extend_190 (by decide) ?_
                  exact ih47 _ _ _ hf _ _ _ hP hD hS (lv_sub hl [2, 3, 4, 5, 6, 7, 0] rfl)
                · have hf := hf.2 h_38
                  refine lv_aload_n S.1 S.2.1 dX0_extend_108 rfl (lv_at hl 1 rfl) ?_
                  refine gfX0_5 S iX0 hK hP (h11 6 (by decide)) k6 dX0_extend_109 ?_
                  refine lv_iload S.1 S.2.1 dX0_extend_112 (lv_at hl 7 rfl) ?_
                  obtain ⟨h_40, hf⟩ := hf
                  refine R_iald S.1 S.2.1 hK hP (h11 9 (by decide)) (IAo9 E) h_40 dX0_extend_114 ?_
                  refine lv_iload_n S.1 S.2.1 dX0_extend_115 rfl (lv_at hl 3 rfl) ?_
                  refine lv_icmp_gt (tgt := 187) S.1 S.2.1 dX0_extend_116 (by decide) (fun h_41 => ?_) (fun h_41 => ?_)
                  · have hf := hf.1 h_41
                    refine nm_o hf (fun x6_42 ex6_42 hf => ?_)
                    refine lv_iinc (v := x6_42) (lv' := [(6, .int x6_42), (8, .int s_33), (0, .ref (eA E 11 6)), (1, .int x1_17), (2, .int x2_18), (3, .int x3_19), (4, .int x4_20), (5, .int x5_21), (7, .int x7_32)]) S.1 S.2.1 dX0_extend_187 hl (k := 7) rfl (by rw [ex6_42]; rfl) (by decide) rfl (fun ls hl => ?_)
                    refine lv_goto (tgt := 47) S.1 S.2.1 dX0_extend_190 (by decide) ?_
                    exact ih47 _ _ _ hf _ _ _ hP hD hS (lv_sub hl [2, 3, 4, 5, 6, 7, 0] rfl)
                  · have hf := hf.2 h_41
                    refine lv_aload_n S.1 S.2.1 dX0_extend_119 rfl (lv_at hl 1 rfl) ?_
                    refine gfX0_5 S iX0 hK hP (h11 6 (by decide)) k6 dX0_extend_120 ?_
                    refine lv_iload S.1 S.2.1 dX0_extend_123 (lv_at hl 7 rfl) ?_
                    obtain ⟨h_43, hf⟩ := hf
                    refine R_iald S.1 S.2.1 hK hP (h11 9 (by decide)) (IAo9 E) h_43 dX0_extend_125 ?_
                    refine lv_aload_n S.1 S.2.1 dX0_extend_126 rfl (lv_at hl 1 rfl) ?_
                    refine gfX0_10 S iX0 hK hP (h11 6 (by decide)) k7 dX0_extend_127 ?_
                    refine lv_iload S.1 S.2.1 dX0_extend_130 (lv_at hl 8 rfl) ?_
                    refine lv_imul S.1 S.2.1 dX0_extend_132 ?_
                    refine lv_iadd S.1 S.2.1 dX0_extend_133 ?_
                    refine lv_aload_n S.1 S.2.1 dX0_extend_134 rfl (lv_at hl 1 rfl) ?_
                    refine gfX0_5 S iX0 hK hP (h11 6 (by decide)) k6 dX0_extend_135 ?_
                    refine lv_iload S.1 S.2.1 dX0_extend_138 (lv_at hl 7 rfl) ?_
                    obtain ⟨h_44, hf⟩ := hf
                    refine R_iald S.1 S.2.1 hK hP (h11 9 (by decide)) (IAo9 E) h_44 dX0_extend_140 ?_
                    refine lv_iload_n S.1 S.2.1 dX0_extend_141 rfl (lv_at hl 3 rfl) ?_
                    refine lv_icmp_ne (tgt := 154) S.1 S.2.1 dX0_extend_142 (by decide) (fun h_45 => ?_) (fun h_45 => ?_)
                    · have hf := hf.2 h_45
                      refine lv_iconst (v := 0) S.1 S.2.1 dX0_extend_154 rfl ?_
                      exact jn155 _ _ _ _ _ hf _ _ _ hP hD hS (lv_sub hl [1, 2, 3, 4, 5, 6, 7] rfl)
                    · have hf := hf.1 h_45
                      refine lv_aload_n S.1 S.2.1 dX0_extend_145 rfl (lv_at hl 1 rfl) ?_
                      refine gfX0_11 S iX0 hK hP (h11 6 (by decide)) k9 dX0_extend_146 ?_
                      refine lv_iload_n S.1 S.2.1 dX0_extend_149 rfl (lv_at hl 4 rfl) ?_
                      refine lv_imul S.1 S.2.1 dX0_extend_150 ?_
                      refine lv_goto (tgt := 155) S.1 S.2.1 dX0_extend_151 (by decide) ?_
                      exact jn155 _ _ _ _ _ hf _ _ _ hP hD hS (lv_sub hl [1, 2, 3, 4, 5, 6, 7] rfl)
            intro H locs ls hP hD hS hl
            unfold f_X0_extend_B47 at hf
            refine lv_iload S.1 S.2.1 dX0_extend_47 (lv_at hl 6 rfl) ?_
            refine lv_aload_n S.1 S.2.1 dX0_extend_49 rfl (lv_at hl 0 rfl) ?_
            refine gfX0_7 S iX0 hK hP (h11 6 (by decide)) k3 dX0_extend_50 ?_
            refine lv_icmp_ge (tgt := 193) S.1 S.2.1 dX0_extend_53 (by decide) (fun h_25 => ?_) (fun h_25 => ?_)
            · have hf := hf.1 h_25
              exact kx193 _ _ hf _ _ _ hP hD hS (lv_sub hl [0, 1, 2, 3, 4] rfl)
            · have hf := hf.2 h_25
              refine lv_aload_n S.1 S.2.1 dX0_extend_56 rfl (lv_at hl 0 rfl) ?_
              refine gfX0_3 S iX0 hK hP (h11 6 (by decide)) k4 dX0_extend_57 ?_
              refine lv_iload S.1 S.2.1 dX0_extend_60 (lv_at hl 5 rfl) ?_
              obtain ⟨h_26, hf⟩ := hf
              refine R_iald S.1 S.2.1 hK hP (h11 7 (by decide)) (IAo7 E) h_26 dX0_extend_62 ?_
              refine lv_if_le (tgt := 193) S.1 S.2.1 dX0_extend_63 (by decide) (fun h_27 => ?_) (fun h_27 => ?_)
              · have hf := hf.1 h_27
                exact kx193 _ _ hf _ _ _ hP hD hS (lv_sub hl [0, 1, 2, 3, 4] rfl)
              · have hf := hf.2 h_27
                refine lv_aload_n S.1 S.2.1 dX0_extend_66 rfl (lv_at hl 0 rfl) ?_
                refine gfX0_6 S iX0 hK hP (h11 6 (by decide)) k5 dX0_extend_67 ?_
                refine lv_iload S.1 S.2.1 dX0_extend_70 (lv_at hl 4 rfl) ?_
                refine lv_bipush (v := 8) S.1 S.2.1 dX0_extend_72 rfl ?_
                refine lv_imul S.1 S.2.1 dX0_extend_74 ?_
                refine lv_iload S.1 S.2.1 dX0_extend_75 (lv_at hl 6 rfl) ?_
                refine lv_iadd S.1 S.2.1 dX0_extend_77 ?_
                obtain ⟨h_28, hf⟩ := hf
                refine R_iald S.1 S.2.1 hK hP (h11 10 (by decide)) (IAo10 E) h_28 dX0_extend_78 ?_
                refine lv_topi (fun x7_29 ex7_29 => ?_)
                have hf := hf x7_29 ex7_29
                refine lv_istore (lv' := [(7, .int x7_29), (0, .ref (eA E 11 6)), (1, .int x1_17), (2, .int x2_18), (3, .int x3_19), (4, .int x4_20), (5, .int x5_21), (6, .int x6_22)]) S.1 S.2.1 dX0_extend_79 hl (by decide) rfl (fun ls hl => ?_)
                refine lv_iload_n S.1 S.2.1 dX0_extend_81 rfl (lv_at hl 2 rfl) ?_
                refine lv_iconst (v := 1) S.1 S.2.1 dX0_extend_82 rfl ?_
                refine lv_iload S.1 S.2.1 dX0_extend_83 (lv_at hl 7 rfl) ?_
                refine lv_ishl S.1 S.2.1 dX0_extend_85 ?_
                refine lv_iand S.1 S.2.1 dX0_extend_86 ?_
                refine lv_if_ne (tgt := 94) S.1 S.2.1 dX0_extend_87 (by decide) (fun h_30 => ?_) (fun h_30 => ?_)
                · have hf := hf.2 h_30
                  refine lv_iconst (v := 0) S.1 S.2.1 dX0_extend_94 rfl ?_
                  exact jn95 _ _ _ _ _ hf _ _ _ hP hD hS (lv_sub hl [1, 2, 3, 4, 5, 6, 7, 0] rfl)
                · have hf := hf.1 h_30
                  refine lv_iconst (v := 1) S.1 S.2.1 dX0_extend_90 rfl ?_
                  refine lv_goto (tgt := 95) S.1 S.2.1 dX0_extend_91 (by decide) ?_
                  exact jn95 _ _ _ _ _ hf _ _ _ hP hD hS (lv_sub hl [1, 2, 3, 4, 5, 6, 7, 0] rfl)
        refine L47 _ _ _ _ _ _ (fun I_57 J_58 hf H locs ls hP hD hS hl => ?_)  n_60 _ _ _ hf _ _ _ hP hD hS (lv_sub hl [2, 3, 4, 5, 6, 1, 0] rfl)
        refine nm_o hf (fun x4_59 ex4_59 hf => ?_)
        refine lv_iinc (v := x4_59) (lv' := [(4, .int x4_59), (0, .ref (eA E 11 6)), (1, .int x1_9), (2, .int x2_10), (3, .int x3_11)]) S.1 S.2.1 dX0_extend_193 hl (k := 4) rfl (by rw [ex4_59]; rfl) (by decide) rfl (fun ls hl => ?_)
        refine lv_goto (tgt := 26) S.1 S.2.1 dX0_extend_196 (by decide) ?_
        exact ih26 _ _ _ hf _ _ _ hP hD hS (lv_sub hl [1, 2, 3, 4, 0] rfl)
  refine L26 _ _ _ _ (fun I_61 J_62 hf H locs ls hP hD hS hl => ?_)  n_63 _ _ _ hf _ _ _ hP hD hS (lv_sub hl [3, 4, 2, 1, 0] rfl)
  exact hret hf hP hD hS dX0_extend_199
